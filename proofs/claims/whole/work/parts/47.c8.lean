/-! The class: what a walk was; bits by lot; sums. -/
section PC6
theorem tmk_or {N : Row} {F : Nat} : ∀ i, tmk N F i = F ||| tmk N 0 i
  | 0 => (Nat.or_zero F).symm
  | i + 1 => by
    unfold tmk
    rw [tmk_or i, Nat.or_assoc]
/-- two walks are alike -/
theorem vE_like {N M : Row} {tr ts : Nat} (h9 : N 9 = nI tr) (g9 : M 9 = nI ts) (h60 : tr ≤ 60) (g60 : ts ≤ 60) : vE N (vr M) = true ↔ M 8 = N 8 ∧ ts = tr ∧ ∀ i, i < tr → M (96 + i) = N (96 + i) := by
  rw [vE_iff]
  have en : (N 9).toNatClampNeg = tr := by rw [h9, nI_clamp (by omega)]
  have em : (M 9).toNatClampNeg = ts := by rw [g9, nI_clamp (by omega)]
  constructor
  · intro h
    have h0 := h 0 (by decide)
    have h1 := h 1 (by decide)
    have h0 : M 8 = N 8 := h0
    have h1 : M 9 = N 9 := h1
    have e : ts = tr := (nI_eq (by omega) (by omega)).mp (g9.symm.trans (h1.trans h9))
    refine ⟨h0, e, fun i hi => ?_⟩
    have := h (i + 2) (by omega)
    have v : ∀ (Q : Row) (t : Nat), (Q 9).toNatClampNeg = t → i < t → vr Q (i + 2) = Q (96 + i) := fun Q t hq hi => by
      unfold vr
      rw [if_neg (show ¬ i + 2 < 2 by omega), hq, if_pos (show i + 2 - 2 < t by omega), Nat.add_sub_cancel]
    rw [v M ts em (by omega), v N tr en hi] at this
    exact this
  · intro ⟨h0, e, hr⟩ k hk
    subst e
    unfold vr
    by_cases h2 : k < 2
    · rw [if_pos h2, if_pos h2]
      obtain rfl | rfl : k = 0 ∨ k = 1 := by omega
      · exact h0
      · show M 9 = N 9
        rw [g9, h9]
    · rw [if_neg h2, if_neg h2, en, em]
      by_cases h3 : k - 2 < ts
      · rw [if_pos h3, if_pos h3]; exact hr _ h3
      · rw [if_neg h3, if_neg h3]
end PC6
section C8
variable {g : Geo} {I : IM} {K : Option Value → Geo → IM → Prop}
theorem c_Wa_bitOfTry {i r tr : Nat} {v : Int32} (hi : isAg g i 7 6) (hr : gR g i 5 = some r) (ha : isAg g r 100 60) (ht : I i 2 = nI tr) (h60 : tr ≤ 60) (k1 : ∀ j, v = nI j → j < tr → K (some (.int (I r j))) g I) (k0 : ¬ rg tr v → K (some (.int cNONE)) g I) : Cl 2 M_Wa_bitOfTry [.ref i, .int v] g I K := by
  show Rl 2 M_Wa_bitOfTry 0 [some (.ref i), some (.int v)] [] g I K
  have e0 : (nI 0).toInt = 0 := rfl
  have e1 := sub1_toInt (n := tr) (by omega)
  by_cases hv : rg tr v
  · obtain ⟨j, hj, rfl⟩ := rg_of hv (by omega)
    have := hv.1
    have := hv.2
    repeat' (first
      | (refine T_iload_n (pc1 := 1) (pc := 0) k_Wa_bitOfTry_0 rfl rfl ?_ <;> try (refine T_iconst (v := (nI 0)) (pc1 := 2) (pc := 1) k_Wa_bitOfTry_1 rfl (by decide) ?_ <;> try ((first | refine T_aload_n (pc1 := 3) (pc := 2) k_Wa_bitOfTry_2 rfl rfl ?_ | refine T_aload_nN (pc1 := 3) (pc := 2) k_Wa_bitOfTry_2 rfl rfl ?_) <;> try (refine T_getV (pc1 := 6) (pc := 3) k_Wa_bitOfTry_3 rfl f_Wa_19 rfl (by first | assumption | exact ga G (by decide) rfl | exact lgA LG (by omega)) (by first | assumption | (simp (disch := omega) only [pI_eq, pI_row, pI_col, va_up_self, va_up_ne, ne_eq, not_false_eq_true] <;> rfl) | rfl) ?_ <;> try (refine T_iconst (v := (nI 1)) (pc1 := 7) (pc := 6) k_Wa_bitOfTry_6 rfl (by decide) ?_ <;> try (refine T_isub (pc1 := 8) (pc := 7) k_Wa_bitOfTry_7 rfl ?_ <;> try ((refine T_cN (As := [_, _, _]) (d1 := 1) (pc1 := 11) (pc := 8) k_Wa_bitOfTry_8 rfl (by decide) (Nat.le_of_ble_eq_true rfl) rfl o_S_isWithin l_Wa_38 rfl (c_S_isWithin (fun hw => ?_) (fun hw => ?_)) <;> try dsimp only [psh]) <;> try ((first | (with_reducible refine T_if_eqN (tgt := 23) (pc1 := 14) (pc := 11) k_Wa_bitOfTry_11 (by decide) (by decide) (by omega) (fun hc => ?_) (fun hc => ?_) <;> first | (exfalso; omega) | skip) | refine T_if_eq_t (tgt := 23) (pc := 11) k_Wa_bitOfTry_11 rfl (by decide) ?_ | refine T_if_eq_f (tgt := 23) (pc1 := 14) (pc := 11) k_Wa_bitOfTry_11 rfl rfl (by decide) ?_ | refine T_if_eq (tgt := 23) (pc1 := 14) (pc := 11) k_Wa_bitOfTry_11 rfl rfl (fun hc => ?_) (fun hc => ?_))))))))))
      | ((first | refine T_aload_n (pc1 := 15) (pc := 14) k_Wa_bitOfTry_14 rfl rfl ?_ | refine T_aload_nN (pc1 := 15) (pc := 14) k_Wa_bitOfTry_14 rfl rfl ?_) <;> try (refine T_getR (pc1 := 18) (pc := 15) k_Wa_bitOfTry_15 rfl f_Wa_28 rfl (by first | assumption | exact ga G (by decide) rfl | exact lgA LG (by omega)) (by first | assumption | exact gr G (by decide) rfl | exact lgR LG (by omega)) ?_ <;> try (refine T_iload_n (pc1 := 19) (pc := 18) k_Wa_bitOfTry_18 rfl rfl ?_ <;> try ((first | refine T_ialdN (pc1 := 20) (pc := 19) k_Wa_bitOfTry_19 rfl (by first | assumption | exact ga G (by decide) rfl | exact lgA LG (by omega)) (by omega) (by omega) (by first | assumption | (simp (disch := omega) only [pI_eq, pI_row, pI_col, va_up_self, va_up_ne, ne_eq, not_false_eq_true] <;> rfl) | rfl) ?_ | refine T_iald (pc1 := 20) (pc := 19) k_Wa_bitOfTry_19 rfl (by first | assumption | exact ga G (by decide) rfl | exact lgA LG (by omega)) (by assumption) ?_) <;> try (refine T_goto (tgt := 25) (pc := 20) k_Wa_bitOfTry_20 rfl ?_)))))
      | (refine T_ldc (v := (-1000000005)) (pc1 := 25) (pc := 23) k_Wa_bitOfTry_23 rfl c_Wa_42 ?_)
      | (refine T_retI (pc := 25) k_Wa_bitOfTry_25 rfl (by first | rfl | decide | assumption) ?_)
      | refine T_iconst (v := (nI 0)) (pc1 := 2) (pc := 1) k_Wa_bitOfTry_1 rfl (by decide) ?_
      | refine T_aload_n (pc1 := 3) (pc := 2) k_Wa_bitOfTry_2 rfl rfl ?_
      | refine T_aload_nN (pc1 := 3) (pc := 2) k_Wa_bitOfTry_2 rfl rfl ?_
      | refine T_getV (pc1 := 6) (pc := 3) k_Wa_bitOfTry_3 rfl f_Wa_19 rfl (by first | assumption | exact ga G (by decide) rfl | exact lgA LG (by omega)) (by first | assumption | (simp (disch := omega) only [pI_eq, pI_row, pI_col, va_up_self, va_up_ne, ne_eq, not_false_eq_true] <;> rfl) | rfl) ?_
      | refine T_iconst (v := (nI 1)) (pc1 := 7) (pc := 6) k_Wa_bitOfTry_6 rfl (by decide) ?_
      | refine T_isub (pc1 := 8) (pc := 7) k_Wa_bitOfTry_7 rfl ?_
      | (refine T_cN (As := [_, _, _]) (d1 := 1) (pc1 := 11) (pc := 8) k_Wa_bitOfTry_8 rfl (by decide) (Nat.le_of_ble_eq_true rfl) rfl o_S_isWithin l_Wa_38 rfl (c_S_isWithin (fun hw => ?_) (fun hw => ?_)) <;> try dsimp only [psh])
      | (with_reducible refine T_if_eqN (tgt := 23) (pc1 := 14) (pc := 11) k_Wa_bitOfTry_11 (by decide) (by decide) (by omega) (fun hc => ?_) (fun hc => ?_) <;> first | (exfalso; omega) | skip)
      | refine T_if_eq_t (tgt := 23) (pc := 11) k_Wa_bitOfTry_11 rfl (by decide) ?_
      | refine T_if_eq_f (tgt := 23) (pc1 := 14) (pc := 11) k_Wa_bitOfTry_11 rfl rfl (by decide) ?_
      | refine T_if_eq (tgt := 23) (pc1 := 14) (pc := 11) k_Wa_bitOfTry_11 rfl rfl (fun hc => ?_) (fun hc => ?_)
      | refine T_getR (pc1 := 18) (pc := 15) k_Wa_bitOfTry_15 rfl f_Wa_28 rfl (by first | assumption | exact ga G (by decide) rfl | exact lgA LG (by omega)) (by first | assumption | exact gr G (by decide) rfl | exact lgR LG (by omega)) ?_
      | refine T_iload_n (pc1 := 19) (pc := 18) k_Wa_bitOfTry_18 rfl rfl ?_
      | refine T_ialdN (pc1 := 20) (pc := 19) k_Wa_bitOfTry_19 rfl (by first | assumption | exact ga G (by decide) rfl | exact lgA LG (by omega)) (by omega) (by omega) (by first | assumption | (simp (disch := omega) only [pI_eq, pI_row, pI_col, va_up_self, va_up_ne, ne_eq, not_false_eq_true] <;> rfl) | rfl) ?_
      | refine T_iald (pc1 := 20) (pc := 19) k_Wa_bitOfTry_19 rfl (by first | assumption | exact ga G (by decide) rfl | exact lgA LG (by omega)) (by assumption) ?_
      | refine T_goto (tgt := 25) (pc := 20) k_Wa_bitOfTry_20 rfl ?_)
    all_goals first | exact k1 j rfl hj | (exfalso; apply hw; constructor <;> omega)
  · have k0 := k0 hv
    repeat' (first
      | (refine T_iload_n (pc1 := 1) (pc := 0) k_Wa_bitOfTry_0 rfl rfl ?_ <;> try (refine T_iconst (v := (nI 0)) (pc1 := 2) (pc := 1) k_Wa_bitOfTry_1 rfl (by decide) ?_ <;> try ((first | refine T_aload_n (pc1 := 3) (pc := 2) k_Wa_bitOfTry_2 rfl rfl ?_ | refine T_aload_nN (pc1 := 3) (pc := 2) k_Wa_bitOfTry_2 rfl rfl ?_) <;> try (refine T_getV (pc1 := 6) (pc := 3) k_Wa_bitOfTry_3 rfl f_Wa_19 rfl (by first | assumption | exact ga G (by decide) rfl | exact lgA LG (by omega)) (by first | assumption | (simp (disch := omega) only [pI_eq, pI_row, pI_col, va_up_self, va_up_ne, ne_eq, not_false_eq_true] <;> rfl) | rfl) ?_ <;> try (refine T_iconst (v := (nI 1)) (pc1 := 7) (pc := 6) k_Wa_bitOfTry_6 rfl (by decide) ?_ <;> try (refine T_isub (pc1 := 8) (pc := 7) k_Wa_bitOfTry_7 rfl ?_ <;> try ((refine T_cN (As := [_, _, _]) (d1 := 1) (pc1 := 11) (pc := 8) k_Wa_bitOfTry_8 rfl (by decide) (Nat.le_of_ble_eq_true rfl) rfl o_S_isWithin l_Wa_38 rfl (c_S_isWithin (fun hw => ?_) (fun hw => ?_)) <;> try dsimp only [psh]) <;> try ((first | (with_reducible refine T_if_eqN (tgt := 23) (pc1 := 14) (pc := 11) k_Wa_bitOfTry_11 (by decide) (by decide) (by omega) (fun hc => ?_) (fun hc => ?_) <;> first | (exfalso; omega) | skip) | refine T_if_eq_t (tgt := 23) (pc := 11) k_Wa_bitOfTry_11 rfl (by decide) ?_ | refine T_if_eq_f (tgt := 23) (pc1 := 14) (pc := 11) k_Wa_bitOfTry_11 rfl rfl (by decide) ?_ | refine T_if_eq (tgt := 23) (pc1 := 14) (pc := 11) k_Wa_bitOfTry_11 rfl rfl (fun hc => ?_) (fun hc => ?_))))))))))
      | (refine T_ldc (v := (-1000000005)) (pc1 := 25) (pc := 23) k_Wa_bitOfTry_23 rfl c_Wa_42 ?_)
      | (refine T_retI (pc := 25) k_Wa_bitOfTry_25 rfl (by first | rfl | decide | assumption) ?_)
      | refine T_iconst (v := (nI 0)) (pc1 := 2) (pc := 1) k_Wa_bitOfTry_1 rfl (by decide) ?_
      | refine T_aload_n (pc1 := 3) (pc := 2) k_Wa_bitOfTry_2 rfl rfl ?_
      | refine T_aload_nN (pc1 := 3) (pc := 2) k_Wa_bitOfTry_2 rfl rfl ?_
      | refine T_getV (pc1 := 6) (pc := 3) k_Wa_bitOfTry_3 rfl f_Wa_19 rfl (by first | assumption | exact ga G (by decide) rfl | exact lgA LG (by omega)) (by first | assumption | (simp (disch := omega) only [pI_eq, pI_row, pI_col, va_up_self, va_up_ne, ne_eq, not_false_eq_true] <;> rfl) | rfl) ?_
      | refine T_iconst (v := (nI 1)) (pc1 := 7) (pc := 6) k_Wa_bitOfTry_6 rfl (by decide) ?_
      | refine T_isub (pc1 := 8) (pc := 7) k_Wa_bitOfTry_7 rfl ?_
      | (refine T_cN (As := [_, _, _]) (d1 := 1) (pc1 := 11) (pc := 8) k_Wa_bitOfTry_8 rfl (by decide) (Nat.le_of_ble_eq_true rfl) rfl o_S_isWithin l_Wa_38 rfl (c_S_isWithin (fun hw => ?_) (fun hw => ?_)) <;> try dsimp only [psh])
      | (with_reducible refine T_if_eqN (tgt := 23) (pc1 := 14) (pc := 11) k_Wa_bitOfTry_11 (by decide) (by decide) (by omega) (fun hc => ?_) (fun hc => ?_) <;> first | (exfalso; omega) | skip)
      | refine T_if_eq_t (tgt := 23) (pc := 11) k_Wa_bitOfTry_11 rfl (by decide) ?_
      | refine T_if_eq_f (tgt := 23) (pc1 := 14) (pc := 11) k_Wa_bitOfTry_11 rfl rfl (by decide) ?_
      | refine T_if_eq (tgt := 23) (pc1 := 14) (pc := 11) k_Wa_bitOfTry_11 rfl rfl (fun hc => ?_) (fun hc => ?_))
    all_goals first | exact k0 | (exfalso; apply hv; constructor <;> omega)
theorem c_Wa_bitsTried {i r tr : Nat} {N : Row} (hi : isAg g i 7 6) (hr : gR g i 5 = some r) (ha : isAg g r 100 60) (ht : I i 2 = nI tr) (h60 : tr ≤ 60) (hv : ∀ x, x < tr → I r x = N (96 + x)) (hb : ∀ x, x < tr → ∃ b, b < 14 ∧ N (96 + x) = nI b) (kk : K (some (.int (nI (tmk N 0 tr)))) g I) : Cl 1 M_Wa_bitsTried [.ref i] g I K := by
  show Rl 1 M_Wa_bitsTried 0 [some (.ref i), none, none] [] g I K
  have loop : ∀ q x, x + q = tr → Rl 1 M_Wa_bitsTried 4 [some (.ref i), some (.int (nI (tmk N 0 x))), some (.int (nI x))] [] g I K := by
    intro q
    induction q with
    | zero =>
      intro x hx
      have hx : x = tr := by omega
      subst hx
      repeat' (first
        | (refine T_iload_n (pc1 := 5) (pc := 4) k_Wa_bitsTried_4 rfl rfl ?_ <;> try ((first | refine T_aload_n (pc1 := 6) (pc := 5) k_Wa_bitsTried_5 rfl rfl ?_ | refine T_aload_nN (pc1 := 6) (pc := 5) k_Wa_bitsTried_5 rfl rfl ?_) <;> try (refine T_getV (pc1 := 9) (pc := 6) k_Wa_bitsTried_6 rfl f_Wa_19 rfl (by first | assumption | exact ga G (by decide) rfl | exact lgA LG (by omega)) (by first | assumption | (simp (disch := omega) only [pI_eq, pI_row, pI_col, va_up_self, va_up_ne, ne_eq, not_false_eq_true] <;> rfl) | rfl) ?_ <;> try ((first | (with_reducible refine T_icmp_geN (tgt := 29) (pc1 := 12) (pc := 9) k_Wa_bitsTried_9 (by decide) (by decide) (by omega) (by omega) (fun hc => ?_) (fun hc => ?_) <;> first | (exfalso; omega) | skip) | refine T_icmp_ge_t (tgt := 29) (pc := 9) k_Wa_bitsTried_9 rfl (by decide) ?_ | refine T_icmp_ge_f (tgt := 29) (pc1 := 12) (pc := 9) k_Wa_bitsTried_9 rfl rfl (by decide) ?_ | refine T_icmp_ge (tgt := 29) (pc1 := 12) (pc := 9) k_Wa_bitsTried_9 rfl rfl (fun hc => ?_) (fun hc => ?_))))))
        | (refine T_iload_n (pc1 := 30) (pc := 29) k_Wa_bitsTried_29 rfl rfl ?_ <;> try (refine T_retI (pc := 30) k_Wa_bitsTried_30 rfl (by first | rfl | decide | assumption) ?_))
        | refine T_aload_n (pc1 := 6) (pc := 5) k_Wa_bitsTried_5 rfl rfl ?_
        | refine T_aload_nN (pc1 := 6) (pc := 5) k_Wa_bitsTried_5 rfl rfl ?_
        | refine T_getV (pc1 := 9) (pc := 6) k_Wa_bitsTried_6 rfl f_Wa_19 rfl (by first | assumption | exact ga G (by decide) rfl | exact lgA LG (by omega)) (by first | assumption | (simp (disch := omega) only [pI_eq, pI_row, pI_col, va_up_self, va_up_ne, ne_eq, not_false_eq_true] <;> rfl) | rfl) ?_
        | (with_reducible refine T_icmp_geN (tgt := 29) (pc1 := 12) (pc := 9) k_Wa_bitsTried_9 (by decide) (by decide) (by omega) (by omega) (fun hc => ?_) (fun hc => ?_) <;> first | (exfalso; omega) | skip)
        | refine T_icmp_ge_t (tgt := 29) (pc := 9) k_Wa_bitsTried_9 rfl (by decide) ?_
        | refine T_icmp_ge_f (tgt := 29) (pc1 := 12) (pc := 9) k_Wa_bitsTried_9 rfl rfl (by decide) ?_
        | refine T_icmp_ge (tgt := 29) (pc1 := 12) (pc := 9) k_Wa_bitsTried_9 rfl rfl (fun hc => ?_) (fun hc => ?_)
        | refine T_retI (pc := 30) k_Wa_bitsTried_30 rfl (by first | rfl | decide | assumption) ?_)
      exact kk
    | succ q ih =>
      intro x hx
      obtain ⟨b, hb14, hbe⟩ := hb x (by omega)
      have e := (hv x (by omega)).trans hbe
      have hm := tmk_lt (N := N) (F := 0) (by decide) hb x (by omega)
      have hp : 2 ^ b < 2 ^ 14 := Nat.pow_lt_pow_right (by decide) hb14
      have ih := ih (x + 1) (by omega)
      rw [tmk, hbe, nI_clamp (by omega)] at ih
      generalize tmk N 0 x = Z at *
      refine T_iload_n (pc1 := 5) (pc := 4) k_Wa_bitsTried_4 rfl rfl ?_
      repeat' (first
        | ((first | refine T_aload_n (pc1 := 6) (pc := 5) k_Wa_bitsTried_5 rfl rfl ?_ | refine T_aload_nN (pc1 := 6) (pc := 5) k_Wa_bitsTried_5 rfl rfl ?_) <;> try (refine T_getV (pc1 := 9) (pc := 6) k_Wa_bitsTried_6 rfl f_Wa_19 rfl (by first | assumption | exact ga G (by decide) rfl | exact lgA LG (by omega)) (by first | assumption | (simp (disch := omega) only [pI_eq, pI_row, pI_col, va_up_self, va_up_ne, ne_eq, not_false_eq_true] <;> rfl) | rfl) ?_ <;> try ((first | (with_reducible refine T_icmp_geN (tgt := 29) (pc1 := 12) (pc := 9) k_Wa_bitsTried_9 (by decide) (by decide) (by omega) (by omega) (fun hc => ?_) (fun hc => ?_) <;> first | (exfalso; omega) | skip) | refine T_icmp_ge_t (tgt := 29) (pc := 9) k_Wa_bitsTried_9 rfl (by decide) ?_ | refine T_icmp_ge_f (tgt := 29) (pc1 := 12) (pc := 9) k_Wa_bitsTried_9 rfl rfl (by decide) ?_ | refine T_icmp_ge (tgt := 29) (pc1 := 12) (pc := 9) k_Wa_bitsTried_9 rfl rfl (fun hc => ?_) (fun hc => ?_)))))
        | (refine T_iload_n (pc1 := 13) (pc := 12) k_Wa_bitsTried_12 rfl rfl ?_ <;> try (refine T_iconst (v := (nI 1)) (pc1 := 14) (pc := 13) k_Wa_bitsTried_13 rfl (by decide) ?_ <;> try ((first | refine T_aload_n (pc1 := 15) (pc := 14) k_Wa_bitsTried_14 rfl rfl ?_ | refine T_aload_nN (pc1 := 15) (pc := 14) k_Wa_bitsTried_14 rfl rfl ?_) <;> try (refine T_getR (pc1 := 18) (pc := 15) k_Wa_bitsTried_15 rfl f_Wa_28 rfl (by first | assumption | exact ga G (by decide) rfl | exact lgA LG (by omega)) (by first | assumption | exact gr G (by decide) rfl | exact lgR LG (by omega)) ?_ <;> try (refine T_iload_n (pc1 := 19) (pc := 18) k_Wa_bitsTried_18 rfl rfl ?_ <;> try ((first | refine T_ialdN (pc1 := 20) (pc := 19) k_Wa_bitsTried_19 rfl (by first | assumption | exact ga G (by decide) rfl | exact lgA LG (by omega)) (by omega) (by omega) (by first | assumption | (simp (disch := omega) only [pI_eq, pI_row, pI_col, va_up_self, va_up_ne, ne_eq, not_false_eq_true] <;> rfl) | rfl) ?_ | refine T_iald (pc1 := 20) (pc := 19) k_Wa_bitsTried_19 rfl (by first | assumption | exact ga G (by decide) rfl | exact lgA LG (by omega)) (by assumption) ?_) <;> try ((refine T_ishl (pc1 := 21) (pc := 20) k_Wa_bitsTried_20 rfl ?_; rw [shl_nI b (by omega)]) <;> try ((refine T_ior (pc1 := 22) (pc := 21) k_Wa_bitsTried_21 rfl ?_; rw [or_nI (by omega) (by omega)]) <;> try (refine T_istore_n (pc1 := 23) (pc := 22) k_Wa_bitsTried_22 rfl (Nat.le_of_ble_eq_true rfl) ?_ <;> try ((first | refine T_iincN (b := 1) (pc1 := 26) (pc := 23) k_Wa_bitsTried_23 rfl rfl (by decide) ?_ | refine T_iinc (v := (nI 1)) (pc1 := 26) (pc := 23) k_Wa_bitsTried_23 rfl rfl (by decide) ?_) <;> try (refine T_goto (tgt := 4) (pc := 26) k_Wa_bitsTried_26 rfl ?_)))))))))))
        | refine T_getV (pc1 := 9) (pc := 6) k_Wa_bitsTried_6 rfl f_Wa_19 rfl (by first | assumption | exact ga G (by decide) rfl | exact lgA LG (by omega)) (by first | assumption | (simp (disch := omega) only [pI_eq, pI_row, pI_col, va_up_self, va_up_ne, ne_eq, not_false_eq_true] <;> rfl) | rfl) ?_
        | (with_reducible refine T_icmp_geN (tgt := 29) (pc1 := 12) (pc := 9) k_Wa_bitsTried_9 (by decide) (by decide) (by omega) (by omega) (fun hc => ?_) (fun hc => ?_) <;> first | (exfalso; omega) | skip)
        | refine T_icmp_ge_t (tgt := 29) (pc := 9) k_Wa_bitsTried_9 rfl (by decide) ?_
        | refine T_icmp_ge_f (tgt := 29) (pc1 := 12) (pc := 9) k_Wa_bitsTried_9 rfl rfl (by decide) ?_
        | refine T_icmp_ge (tgt := 29) (pc1 := 12) (pc := 9) k_Wa_bitsTried_9 rfl rfl (fun hc => ?_) (fun hc => ?_)
        | refine T_iconst (v := (nI 1)) (pc1 := 14) (pc := 13) k_Wa_bitsTried_13 rfl (by decide) ?_
        | refine T_aload_n (pc1 := 15) (pc := 14) k_Wa_bitsTried_14 rfl rfl ?_
        | refine T_aload_nN (pc1 := 15) (pc := 14) k_Wa_bitsTried_14 rfl rfl ?_
        | refine T_getR (pc1 := 18) (pc := 15) k_Wa_bitsTried_15 rfl f_Wa_28 rfl (by first | assumption | exact ga G (by decide) rfl | exact lgA LG (by omega)) (by first | assumption | exact gr G (by decide) rfl | exact lgR LG (by omega)) ?_
        | refine T_iload_n (pc1 := 19) (pc := 18) k_Wa_bitsTried_18 rfl rfl ?_
        | refine T_ialdN (pc1 := 20) (pc := 19) k_Wa_bitsTried_19 rfl (by first | assumption | exact ga G (by decide) rfl | exact lgA LG (by omega)) (by omega) (by omega) (by first | assumption | (simp (disch := omega) only [pI_eq, pI_row, pI_col, va_up_self, va_up_ne, ne_eq, not_false_eq_true] <;> rfl) | rfl) ?_
        | refine T_iald (pc1 := 20) (pc := 19) k_Wa_bitsTried_19 rfl (by first | assumption | exact ga G (by decide) rfl | exact lgA LG (by omega)) (by assumption) ?_
        | (refine T_ishl (pc1 := 21) (pc := 20) k_Wa_bitsTried_20 rfl ?_; rw [shl_nI b (by omega)])
        | (refine T_ior (pc1 := 22) (pc := 21) k_Wa_bitsTried_21 rfl ?_; rw [or_nI (by omega) (by omega)])
        | refine T_istore_n (pc1 := 23) (pc := 22) k_Wa_bitsTried_22 rfl (Nat.le_of_ble_eq_true rfl) ?_
        | refine T_iincN (b := 1) (pc1 := 26) (pc := 23) k_Wa_bitsTried_23 rfl rfl (by decide) ?_
        | refine T_iinc (v := (nI 1)) (pc1 := 26) (pc := 23) k_Wa_bitsTried_23 rfl rfl (by decide) ?_
        | refine T_goto (tgt := 4) (pc := 26) k_Wa_bitsTried_26 rfl ?_)
      exact ih
  repeat' (first
    | (refine T_iconst (v := (nI 0)) (pc1 := 1) (pc := 0) k_Wa_bitsTried_0 rfl (by decide) ?_ <;> try (refine T_istore_n (pc1 := 2) (pc := 1) k_Wa_bitsTried_1 rfl (Nat.le_of_ble_eq_true rfl) ?_ <;> try (refine T_iconst (v := (nI 0)) (pc1 := 3) (pc := 2) k_Wa_bitsTried_2 rfl (by decide) ?_ <;> try (refine T_istore_n (pc1 := 4) (pc := 3) k_Wa_bitsTried_3 rfl (Nat.le_of_ble_eq_true rfl) ?_))))
    | refine T_istore_n (pc1 := 2) (pc := 1) k_Wa_bitsTried_1 rfl (Nat.le_of_ble_eq_true rfl) ?_
    | refine T_iconst (v := (nI 0)) (pc1 := 3) (pc := 2) k_Wa_bitsTried_2 rfl (by decide) ?_
    | refine T_istore_n (pc1 := 4) (pc := 3) k_Wa_bitsTried_3 rfl (Nat.le_of_ble_eq_true rfl) ?_)
  exact loop tr 0 (by omega)
theorem c_Wa_isLike {i j ri rj tr ts : Nat} (hi : isAg g i 7 6) (hj : isAg g j 7 6) (hri : gR g i 5 = some ri) (hrj : gR g j 5 = some rj) (hai : isAg g ri 100 60) (haj : isAg g rj 100 60) (ht : I i 2 = nI tr) (h60 : tr ≤ 60) (hs : I j 2 = nI ts) (g60 : ts ≤ 60) (kt : I i 1 = I j 1 ∧ tr = ts ∧ (∀ x, x < tr → I ri x = I rj x) → K (some (.int (nI 1))) g I) (kf : ¬ (I i 1 = I j 1 ∧ tr = ts ∧ (∀ x, x < tr → I ri x = I rj x)) → K (some (.int (nI 0))) g I) : Cl 1 M_Wa_isLike [.ref i, .ref j] g I K := by
  show Rl 1 M_Wa_isLike 0 [some (.ref i), some (.ref j), none] [] g I K
  have loop : ∀ q x, x + q = tr → I i 1 = I j 1 → tr = ts → (∀ y, y < x → I ri y = I rj y) → Rl 1 M_Wa_isLike 26 [some (.ref i), some (.ref j), some (.int (nI x))] [] g I K := by
    intro q
    induction q with
    | zero =>
      intro x hx h1 h2 hy
      have hx : x = tr := by omega
      subst hx
      have kt := kt ⟨h1, h2, hy⟩
      repeat' (first
        | (refine T_iload_n (pc1 := 27) (pc := 26) k_Wa_isLike_26 rfl rfl ?_ <;> try ((first | refine T_aload_n (pc1 := 28) (pc := 27) k_Wa_isLike_27 rfl rfl ?_ | refine T_aload_nN (pc1 := 28) (pc := 27) k_Wa_isLike_27 rfl rfl ?_) <;> try (refine T_getV (pc1 := 31) (pc := 28) k_Wa_isLike_28 rfl f_Wa_19 rfl (by first | assumption | exact ga G (by decide) rfl | exact lgA LG (by omega)) (by first | assumption | (simp (disch := omega) only [pI_eq, pI_row, pI_col, va_up_self, va_up_ne, ne_eq, not_false_eq_true] <;> rfl) | rfl) ?_ <;> try ((first | (with_reducible refine T_icmp_geN (tgt := 57) (pc1 := 34) (pc := 31) k_Wa_isLike_31 (by decide) (by decide) (by omega) (by omega) (fun hc => ?_) (fun hc => ?_) <;> first | (exfalso; omega) | skip) | refine T_icmp_ge_t (tgt := 57) (pc := 31) k_Wa_isLike_31 rfl (by decide) ?_ | refine T_icmp_ge_f (tgt := 57) (pc1 := 34) (pc := 31) k_Wa_isLike_31 rfl rfl (by decide) ?_ | refine T_icmp_ge (tgt := 57) (pc1 := 34) (pc := 31) k_Wa_isLike_31 rfl rfl (fun hc => ?_) (fun hc => ?_))))))
        | (refine T_iconst (v := (nI 1)) (pc1 := 58) (pc := 57) k_Wa_isLike_57 rfl (by decide) ?_ <;> try (refine T_retI (pc := 58) k_Wa_isLike_58 rfl (by first | rfl | decide | assumption) ?_))
        | refine T_aload_n (pc1 := 28) (pc := 27) k_Wa_isLike_27 rfl rfl ?_
        | refine T_aload_nN (pc1 := 28) (pc := 27) k_Wa_isLike_27 rfl rfl ?_
        | refine T_getV (pc1 := 31) (pc := 28) k_Wa_isLike_28 rfl f_Wa_19 rfl (by first | assumption | exact ga G (by decide) rfl | exact lgA LG (by omega)) (by first | assumption | (simp (disch := omega) only [pI_eq, pI_row, pI_col, va_up_self, va_up_ne, ne_eq, not_false_eq_true] <;> rfl) | rfl) ?_
        | (with_reducible refine T_icmp_geN (tgt := 57) (pc1 := 34) (pc := 31) k_Wa_isLike_31 (by decide) (by decide) (by omega) (by omega) (fun hc => ?_) (fun hc => ?_) <;> first | (exfalso; omega) | skip)
        | refine T_icmp_ge_t (tgt := 57) (pc := 31) k_Wa_isLike_31 rfl (by decide) ?_
        | refine T_icmp_ge_f (tgt := 57) (pc1 := 34) (pc := 31) k_Wa_isLike_31 rfl rfl (by decide) ?_
        | refine T_icmp_ge (tgt := 57) (pc1 := 34) (pc := 31) k_Wa_isLike_31 rfl rfl (fun hc => ?_) (fun hc => ?_)
        | refine T_retI (pc := 58) k_Wa_isLike_58 rfl (by first | rfl | decide | assumption) ?_)
      exact kt
    | succ q ih =>
      intro x hx h1 h2 hy
      refine T_iload_n (pc1 := 27) (pc := 26) k_Wa_isLike_26 rfl rfl ?_
      repeat' (first
        | ((first | refine T_aload_n (pc1 := 28) (pc := 27) k_Wa_isLike_27 rfl rfl ?_ | refine T_aload_nN (pc1 := 28) (pc := 27) k_Wa_isLike_27 rfl rfl ?_) <;> try (refine T_getV (pc1 := 31) (pc := 28) k_Wa_isLike_28 rfl f_Wa_19 rfl (by first | assumption | exact ga G (by decide) rfl | exact lgA LG (by omega)) (by first | assumption | (simp (disch := omega) only [pI_eq, pI_row, pI_col, va_up_self, va_up_ne, ne_eq, not_false_eq_true] <;> rfl) | rfl) ?_ <;> try ((first | (with_reducible refine T_icmp_geN (tgt := 57) (pc1 := 34) (pc := 31) k_Wa_isLike_31 (by decide) (by decide) (by omega) (by omega) (fun hc => ?_) (fun hc => ?_) <;> first | (exfalso; omega) | skip) | refine T_icmp_ge_t (tgt := 57) (pc := 31) k_Wa_isLike_31 rfl (by decide) ?_ | refine T_icmp_ge_f (tgt := 57) (pc1 := 34) (pc := 31) k_Wa_isLike_31 rfl rfl (by decide) ?_ | refine T_icmp_ge (tgt := 57) (pc1 := 34) (pc := 31) k_Wa_isLike_31 rfl rfl (fun hc => ?_) (fun hc => ?_)))))
        | ((first | refine T_aload_n (pc1 := 35) (pc := 34) k_Wa_isLike_34 rfl rfl ?_ | refine T_aload_nN (pc1 := 35) (pc := 34) k_Wa_isLike_34 rfl rfl ?_) <;> try (refine T_getR (pc1 := 38) (pc := 35) k_Wa_isLike_35 rfl f_Wa_28 rfl (by first | assumption | exact ga G (by decide) rfl | exact lgA LG (by omega)) (by first | assumption | exact gr G (by decide) rfl | exact lgR LG (by omega)) ?_ <;> try (refine T_iload_n (pc1 := 39) (pc := 38) k_Wa_isLike_38 rfl rfl ?_ <;> try ((first | refine T_ialdN (pc1 := 40) (pc := 39) k_Wa_isLike_39 rfl (by first | assumption | exact ga G (by decide) rfl | exact lgA LG (by omega)) (by omega) (by omega) (by first | assumption | (simp (disch := omega) only [pI_eq, pI_row, pI_col, va_up_self, va_up_ne, ne_eq, not_false_eq_true] <;> rfl) | rfl) ?_ | refine T_iald (pc1 := 40) (pc := 39) k_Wa_isLike_39 rfl (by first | assumption | exact ga G (by decide) rfl | exact lgA LG (by omega)) (by assumption) ?_) <;> try ((first | refine T_aload_n (pc1 := 41) (pc := 40) k_Wa_isLike_40 rfl rfl ?_ | refine T_aload_nN (pc1 := 41) (pc := 40) k_Wa_isLike_40 rfl rfl ?_) <;> try (refine T_getR (pc1 := 44) (pc := 41) k_Wa_isLike_41 rfl f_Wa_28 rfl (by first | assumption | exact ga G (by decide) rfl | exact lgA LG (by omega)) (by first | assumption | exact gr G (by decide) rfl | exact lgR LG (by omega)) ?_ <;> try (refine T_iload_n (pc1 := 45) (pc := 44) k_Wa_isLike_44 rfl rfl ?_ <;> try ((first | refine T_ialdN (pc1 := 46) (pc := 45) k_Wa_isLike_45 rfl (by first | assumption | exact ga G (by decide) rfl | exact lgA LG (by omega)) (by omega) (by omega) (by first | assumption | (simp (disch := omega) only [pI_eq, pI_row, pI_col, va_up_self, va_up_ne, ne_eq, not_false_eq_true] <;> rfl) | rfl) ?_ | refine T_iald (pc1 := 46) (pc := 45) k_Wa_isLike_45 rfl (by first | assumption | exact ga G (by decide) rfl | exact lgA LG (by omega)) (by assumption) ?_) <;> try (refine T_icmp_eq (tgt := 51) (pc1 := 49) (pc := 46) k_Wa_isLike_46 rfl rfl (fun hc => ?_) (fun hc => ?_))))))))))
        | (refine T_iconst (v := (nI 0)) (pc1 := 50) (pc := 49) k_Wa_isLike_49 rfl (by decide) ?_ <;> try (refine T_retI (pc := 50) k_Wa_isLike_50 rfl (by first | rfl | decide | assumption) ?_))
        | ((first | refine T_iincN (b := 1) (pc1 := 54) (pc := 51) k_Wa_isLike_51 rfl rfl (by decide) ?_ | refine T_iinc (v := (nI 1)) (pc1 := 54) (pc := 51) k_Wa_isLike_51 rfl rfl (by decide) ?_) <;> try (refine T_goto (tgt := 26) (pc := 54) k_Wa_isLike_54 rfl ?_))
        | refine T_getV (pc1 := 31) (pc := 28) k_Wa_isLike_28 rfl f_Wa_19 rfl (by first | assumption | exact ga G (by decide) rfl | exact lgA LG (by omega)) (by first | assumption | (simp (disch := omega) only [pI_eq, pI_row, pI_col, va_up_self, va_up_ne, ne_eq, not_false_eq_true] <;> rfl) | rfl) ?_
        | (with_reducible refine T_icmp_geN (tgt := 57) (pc1 := 34) (pc := 31) k_Wa_isLike_31 (by decide) (by decide) (by omega) (by omega) (fun hc => ?_) (fun hc => ?_) <;> first | (exfalso; omega) | skip)
        | refine T_icmp_ge_t (tgt := 57) (pc := 31) k_Wa_isLike_31 rfl (by decide) ?_
        | refine T_icmp_ge_f (tgt := 57) (pc1 := 34) (pc := 31) k_Wa_isLike_31 rfl rfl (by decide) ?_
        | refine T_icmp_ge (tgt := 57) (pc1 := 34) (pc := 31) k_Wa_isLike_31 rfl rfl (fun hc => ?_) (fun hc => ?_)
        | refine T_getR (pc1 := 38) (pc := 35) k_Wa_isLike_35 rfl f_Wa_28 rfl (by first | assumption | exact ga G (by decide) rfl | exact lgA LG (by omega)) (by first | assumption | exact gr G (by decide) rfl | exact lgR LG (by omega)) ?_
        | refine T_iload_n (pc1 := 39) (pc := 38) k_Wa_isLike_38 rfl rfl ?_
        | refine T_ialdN (pc1 := 40) (pc := 39) k_Wa_isLike_39 rfl (by first | assumption | exact ga G (by decide) rfl | exact lgA LG (by omega)) (by omega) (by omega) (by first | assumption | (simp (disch := omega) only [pI_eq, pI_row, pI_col, va_up_self, va_up_ne, ne_eq, not_false_eq_true] <;> rfl) | rfl) ?_
        | refine T_iald (pc1 := 40) (pc := 39) k_Wa_isLike_39 rfl (by first | assumption | exact ga G (by decide) rfl | exact lgA LG (by omega)) (by assumption) ?_
        | refine T_aload_n (pc1 := 41) (pc := 40) k_Wa_isLike_40 rfl rfl ?_
        | refine T_aload_nN (pc1 := 41) (pc := 40) k_Wa_isLike_40 rfl rfl ?_
        | refine T_getR (pc1 := 44) (pc := 41) k_Wa_isLike_41 rfl f_Wa_28 rfl (by first | assumption | exact ga G (by decide) rfl | exact lgA LG (by omega)) (by first | assumption | exact gr G (by decide) rfl | exact lgR LG (by omega)) ?_
        | refine T_iload_n (pc1 := 45) (pc := 44) k_Wa_isLike_44 rfl rfl ?_
        | refine T_ialdN (pc1 := 46) (pc := 45) k_Wa_isLike_45 rfl (by first | assumption | exact ga G (by decide) rfl | exact lgA LG (by omega)) (by omega) (by omega) (by first | assumption | (simp (disch := omega) only [pI_eq, pI_row, pI_col, va_up_self, va_up_ne, ne_eq, not_false_eq_true] <;> rfl) | rfl) ?_
        | refine T_iald (pc1 := 46) (pc := 45) k_Wa_isLike_45 rfl (by first | assumption | exact ga G (by decide) rfl | exact lgA LG (by omega)) (by assumption) ?_
        | refine T_icmp_eq (tgt := 51) (pc1 := 49) (pc := 46) k_Wa_isLike_46 rfl rfl (fun hc => ?_) (fun hc => ?_)
        | refine T_retI (pc := 50) k_Wa_isLike_50 rfl (by first | rfl | decide | assumption) ?_
        | refine T_goto (tgt := 26) (pc := 54) k_Wa_isLike_54 rfl ?_)
      · refine ih (x + 1) (by omega) h1 h2 (fun y hy2 => ?_)
        by_cases hyx : y = x
        · subst hyx; exact hc
        · exact hy y (by omega)
      · exact kf (fun q => hc (q.2.2 x (by omega)))
  repeat' (first
    | ((first | refine T_aload_n (pc1 := 1) (pc := 0) k_Wa_isLike_0 rfl rfl ?_ | refine T_aload_nN (pc1 := 1) (pc := 0) k_Wa_isLike_0 rfl rfl ?_) <;> try (refine T_getV (pc1 := 4) (pc := 1) k_Wa_isLike_1 rfl f_Wa_15 rfl (by first | assumption | exact ga G (by decide) rfl | exact lgA LG (by omega)) (by first | assumption | (simp (disch := omega) only [pI_eq, pI_row, pI_col, va_up_self, va_up_ne, ne_eq, not_false_eq_true] <;> rfl) | rfl) ?_ <;> try ((first | refine T_aload_n (pc1 := 5) (pc := 4) k_Wa_isLike_4 rfl rfl ?_ | refine T_aload_nN (pc1 := 5) (pc := 4) k_Wa_isLike_4 rfl rfl ?_) <;> try (refine T_getV (pc1 := 8) (pc := 5) k_Wa_isLike_5 rfl f_Wa_15 rfl (by first | assumption | exact ga G (by decide) rfl | exact lgA LG (by omega)) (by first | assumption | (simp (disch := omega) only [pI_eq, pI_row, pI_col, va_up_self, va_up_ne, ne_eq, not_false_eq_true] <;> rfl) | rfl) ?_ <;> try (refine T_icmp_ne (tgt := 22) (pc1 := 11) (pc := 8) k_Wa_isLike_8 rfl rfl (fun hc1 => ?_) (fun hc1 => ?_))))))
    | ((first | refine T_aload_n (pc1 := 12) (pc := 11) k_Wa_isLike_11 rfl rfl ?_ | refine T_aload_nN (pc1 := 12) (pc := 11) k_Wa_isLike_11 rfl rfl ?_) <;> try (refine T_getV (pc1 := 15) (pc := 12) k_Wa_isLike_12 rfl f_Wa_19 rfl (by first | assumption | exact ga G (by decide) rfl | exact lgA LG (by omega)) (by first | assumption | (simp (disch := omega) only [pI_eq, pI_row, pI_col, va_up_self, va_up_ne, ne_eq, not_false_eq_true] <;> rfl) | rfl) ?_ <;> try ((first | refine T_aload_n (pc1 := 16) (pc := 15) k_Wa_isLike_15 rfl rfl ?_ | refine T_aload_nN (pc1 := 16) (pc := 15) k_Wa_isLike_15 rfl rfl ?_) <;> try (refine T_getV (pc1 := 19) (pc := 16) k_Wa_isLike_16 rfl f_Wa_19 rfl (by first | assumption | exact ga G (by decide) rfl | exact lgA LG (by omega)) (by first | assumption | (simp (disch := omega) only [pI_eq, pI_row, pI_col, va_up_self, va_up_ne, ne_eq, not_false_eq_true] <;> rfl) | rfl) ?_ <;> try ((first | (with_reducible refine T_icmp_eqN (tgt := 24) (pc1 := 22) (pc := 19) k_Wa_isLike_19 (by decide) (by decide) (by omega) (by omega) (fun hc => ?_) (fun hc => ?_) <;> first | (exfalso; omega) | skip) | refine T_icmp_eq_t (tgt := 24) (pc := 19) k_Wa_isLike_19 rfl (by decide) ?_ | refine T_icmp_eq_f (tgt := 24) (pc1 := 22) (pc := 19) k_Wa_isLike_19 rfl rfl (by decide) ?_ | refine T_icmp_eq (tgt := 24) (pc1 := 22) (pc := 19) k_Wa_isLike_19 rfl rfl (fun hc => ?_) (fun hc => ?_)))))))
    | (refine T_iconst (v := (nI 0)) (pc1 := 23) (pc := 22) k_Wa_isLike_22 rfl (by decide) ?_ <;> try (refine T_retI (pc := 23) k_Wa_isLike_23 rfl (by first | rfl | decide | assumption) ?_))
    | (refine T_iconst (v := (nI 0)) (pc1 := 25) (pc := 24) k_Wa_isLike_24 rfl (by decide) ?_ <;> try (refine T_istore_n (pc1 := 26) (pc := 25) k_Wa_isLike_25 rfl (Nat.le_of_ble_eq_true rfl) ?_))
    | refine T_getV (pc1 := 4) (pc := 1) k_Wa_isLike_1 rfl f_Wa_15 rfl (by first | assumption | exact ga G (by decide) rfl | exact lgA LG (by omega)) (by first | assumption | (simp (disch := omega) only [pI_eq, pI_row, pI_col, va_up_self, va_up_ne, ne_eq, not_false_eq_true] <;> rfl) | rfl) ?_
    | refine T_aload_n (pc1 := 5) (pc := 4) k_Wa_isLike_4 rfl rfl ?_
    | refine T_aload_nN (pc1 := 5) (pc := 4) k_Wa_isLike_4 rfl rfl ?_
    | refine T_getV (pc1 := 8) (pc := 5) k_Wa_isLike_5 rfl f_Wa_15 rfl (by first | assumption | exact ga G (by decide) rfl | exact lgA LG (by omega)) (by first | assumption | (simp (disch := omega) only [pI_eq, pI_row, pI_col, va_up_self, va_up_ne, ne_eq, not_false_eq_true] <;> rfl) | rfl) ?_
    | refine T_icmp_ne (tgt := 22) (pc1 := 11) (pc := 8) k_Wa_isLike_8 rfl rfl (fun hc1 => ?_) (fun hc1 => ?_)
    | refine T_getV (pc1 := 15) (pc := 12) k_Wa_isLike_12 rfl f_Wa_19 rfl (by first | assumption | exact ga G (by decide) rfl | exact lgA LG (by omega)) (by first | assumption | (simp (disch := omega) only [pI_eq, pI_row, pI_col, va_up_self, va_up_ne, ne_eq, not_false_eq_true] <;> rfl) | rfl) ?_
    | refine T_aload_n (pc1 := 16) (pc := 15) k_Wa_isLike_15 rfl rfl ?_
    | refine T_aload_nN (pc1 := 16) (pc := 15) k_Wa_isLike_15 rfl rfl ?_
    | refine T_getV (pc1 := 19) (pc := 16) k_Wa_isLike_16 rfl f_Wa_19 rfl (by first | assumption | exact ga G (by decide) rfl | exact lgA LG (by omega)) (by first | assumption | (simp (disch := omega) only [pI_eq, pI_row, pI_col, va_up_self, va_up_ne, ne_eq, not_false_eq_true] <;> rfl) | rfl) ?_
    | (with_reducible refine T_icmp_eqN (tgt := 24) (pc1 := 22) (pc := 19) k_Wa_isLike_19 (by decide) (by decide) (by omega) (by omega) (fun hc => ?_) (fun hc => ?_) <;> first | (exfalso; omega) | skip)
    | refine T_icmp_eq_t (tgt := 24) (pc := 19) k_Wa_isLike_19 rfl (by decide) ?_
    | refine T_icmp_eq_f (tgt := 24) (pc1 := 22) (pc := 19) k_Wa_isLike_19 rfl rfl (by decide) ?_
    | refine T_icmp_eq (tgt := 24) (pc1 := 22) (pc := 19) k_Wa_isLike_19 rfl rfl (fun hc => ?_) (fun hc => ?_)
    | refine T_retI (pc := 23) k_Wa_isLike_23 rfl (by first | rfl | decide | assumption) ?_
    | refine T_istore_n (pc1 := 26) (pc := 25) k_Wa_isLike_25 rfl (Nat.le_of_ble_eq_true rfl) ?_)
  · exact kf (fun q => hc1 q.1)
  · exact loop tr 0 (by omega) (Decidable.not_not.mp hc1) (by omega) (fun y hy => absurd hy (Nat.not_lt_zero _))
  · exact kf (fun q => by omega)
theorem c_La_add {a n tn : Nat} {N : Row} {k f t l : Int32} (LG : LandG g a) (h5 : I a 1 = nI n) (hn : n < 14) (kk : K (some (.int (nI n))) g (pI (pI (pI (pI (pI (pI (pI I (a + 6 + n) 0 k) (a + 6 + n) 1 f) (a + 6 + n) 2 t) (a + 6 + n) 3 l) (a + 6 + n) 4 (nI 0)) (a + 6 + n) 5 cNONE) a 1 (nI (n + 1)))) : Cl 2 M_La_add [.ref a, .int k, .int f, .int t, .int l] g I K := by
  show Rl 2 M_La_add 0 [some (.ref a), some (.int k), some (.int f), some (.int t), some (.int l)] [] g I K
  obtain ⟨g1, g2, g3, g4, g5, g6, g7, g8, g9, g10, g11, g12, g13, g14⟩ := id LG
  have gb := lgA LG hn
  repeat' (first
    | ((first | refine T_aload_n (pc1 := 1) (pc := 0) k_La_add_0 rfl rfl ?_ | refine T_aload_nN (pc1 := 1) (pc := 0) k_La_add_0 rfl rfl ?_) <;> try (refine T_getV (pc1 := 4) (pc := 1) k_La_add_1 rfl f_La_17 rfl (by first | assumption | exact ga G (by decide) rfl | exact lgA LG (by omega)) (by first | assumption | (simp (disch := omega) only [pI_eq, pI_row, pI_col, va_up_self, va_up_ne, ne_eq, not_false_eq_true, h5] <;> rfl) | rfl) ?_ <;> try (refine T_bipush (v := (nI 14)) (pc1 := 6) (pc := 4) k_La_add_4 rfl (by decide) ?_ <;> try ((first | (with_reducible refine T_icmp_ltN (tgt := 12) (pc1 := 9) (pc := 6) k_La_add_6 (by decide) (by decide) (by omega) (by omega) (fun hc => ?_) (fun hc => ?_) <;> first | (exfalso; omega) | skip) | refine T_icmp_lt_t (tgt := 12) (pc := 6) k_La_add_6 rfl (by decide) ?_ | refine T_icmp_lt_f (tgt := 12) (pc1 := 9) (pc := 6) k_La_add_6 rfl rfl (by decide) ?_ | refine T_icmp_lt (tgt := 12) (pc1 := 9) (pc := 6) k_La_add_6 rfl rfl (fun hc => ?_) (fun hc => ?_))))))
    | (refine T_ldc (v := (-1000000003)) (pc1 := 11) (pc := 9) k_La_add_9 rfl c_La_75 ?_ <;> try (refine T_retI (pc := 11) k_La_add_11 rfl (by first | rfl | decide | assumption) ?_))
    | ((first | refine T_aload_n (pc1 := 13) (pc := 12) k_La_add_12 rfl rfl ?_ | refine T_aload_nN (pc1 := 13) (pc := 12) k_La_add_12 rfl rfl ?_) <;> try (refine T_getR (pc1 := 16) (pc := 13) k_La_add_13 rfl f_La_11 rfl (by first | assumption | exact ga G (by decide) rfl | exact lgA LG (by omega)) (by first | assumption | exact gr G (by decide) rfl | exact lgR LG (by omega)) ?_ <;> try ((first | refine T_aload_n (pc1 := 17) (pc := 16) k_La_add_16 rfl rfl ?_ | refine T_aload_nN (pc1 := 17) (pc := 16) k_La_add_16 rfl rfl ?_) <;> try (refine T_getV (pc1 := 20) (pc := 17) k_La_add_17 rfl f_La_17 rfl (by first | assumption | exact ga G (by decide) rfl | exact lgA LG (by omega)) (by first | assumption | (simp (disch := omega) only [pI_eq, pI_row, pI_col, va_up_self, va_up_ne, ne_eq, not_false_eq_true, h5] <;> rfl) | rfl) ?_ <;> try ((first | refine T_aaldQ (e0 := 4) (pc1 := 21) (pc := 20) k_La_add_20 rfl (by first | assumption | exact ga G (by decide) rfl | exact lgA LG (by omega)) (by decide) (by omega) (by omega) (by first | assumption | exact gr G (by decide) rfl | exact lgR LG (by omega)) ?_ | refine T_aaldQ (e0 := 0) (pc1 := 21) (pc := 20) k_La_add_20 rfl (by first | assumption | exact ga G (by decide) rfl | exact lgA LG (by omega)) (by decide) (by omega) (by omega) (by first | assumption | exact gr G (by decide) rfl | exact lgR LG (by omega)) ?_ | refine T_aaldQ (e0 := 1) (pc1 := 21) (pc := 20) k_La_add_20 rfl (by first | assumption | exact ga G (by decide) rfl | exact lgA LG (by omega)) (by decide) (by omega) (by omega) (by first | assumption | exact gr G (by decide) rfl | exact lgR LG (by omega)) ?_ | refine T_aaldQ (e0 := 2) (pc1 := 21) (pc := 20) k_La_add_20 rfl (by first | assumption | exact ga G (by decide) rfl | exact lgA LG (by omega)) (by decide) (by omega) (by omega) (by first | assumption | exact gr G (by decide) rfl | exact lgR LG (by omega)) ?_ | refine T_aaldQ (e0 := 3) (pc1 := 21) (pc := 20) k_La_add_20 rfl (by first | assumption | exact ga G (by decide) rfl | exact lgA LG (by omega)) (by decide) (by omega) (by omega) (by first | assumption | exact gr G (by decide) rfl | exact lgR LG (by omega)) ?_) <;> try (refine T_iload_n (pc1 := 22) (pc := 21) k_La_add_21 rfl rfl ?_ <;> try (refine T_iload_n (pc1 := 23) (pc := 22) k_La_add_22 rfl rfl ?_ <;> try (refine T_iload_n (pc1 := 24) (pc := 23) k_La_add_23 rfl rfl ?_ <;> try (refine T_iload (pc1 := 26) (pc := 24) k_La_add_24 rfl rfl ?_ <;> try ((refine T_cV (As := [_, _, _, _]) (d1 := 1) (pc1 := 29) (pc := 26) k_La_add_26 rfl (by decide) (Nat.le_of_ble_eq_true rfl) rfl o_B_become l_La_76 rfl (by first | assumption | exact ga G (by decide) rfl | exact lgA LG (by omega)) rfl (c_B_become gb ?_) <;> try dsimp only [psh]) <;> try ((first | refine T_aload_n (pc1 := 30) (pc := 29) k_La_add_29 rfl rfl ?_ | refine T_aload_nN (pc1 := 30) (pc := 29) k_La_add_29 rfl rfl ?_) <;> try (refine T_dup (pc1 := 31) (pc := 30) k_La_add_30 rfl rfl ?_ <;> try (refine T_getV (pc1 := 34) (pc := 31) k_La_add_31 rfl f_La_17 rfl (by first | assumption | exact ga G (by decide) rfl | exact lgA LG (by omega)) (by first | assumption | (simp (disch := omega) only [pI_eq, pI_row, pI_col, va_up_self, va_up_ne, ne_eq, not_false_eq_true, h5] <;> rfl) | rfl) ?_ <;> try (refine T_iconst (v := (nI 1)) (pc1 := 35) (pc := 34) k_La_add_34 rfl (by decide) ?_))))))))))))))
    | ((first | with_reducible refine T_iaddN (pc1 := 36) (pc := 35) k_La_add_35 (by decide) ?_ | refine T_iadd (pc1 := 36) (pc := 35) k_La_add_35 rfl ?_) <;> try (refine T_putI (pc1 := 39) (pc := 36) k_La_add_36 rfl f_La_17 rfl (by first | assumption | exact ga G (by decide) rfl | exact lgA LG (by omega)) (by first | rfl | decide | assumption) (by first | rfl | decide | assumption) ?_ <;> try ((first | refine T_aload_n (pc1 := 40) (pc := 39) k_La_add_39 rfl rfl ?_ | refine T_aload_nN (pc1 := 40) (pc := 39) k_La_add_39 rfl rfl ?_) <;> try (refine T_getV (pc1 := 43) (pc := 40) k_La_add_40 rfl f_La_17 rfl (by first | assumption | exact ga G (by decide) rfl | exact lgA LG (by omega)) (by first | assumption | (simp (disch := omega) only [pI_eq, pI_row, pI_col, va_up_self, va_up_ne, ne_eq, not_false_eq_true, h5] <;> rfl) | rfl) ?_ <;> try (refine T_iconst (v := (nI 1)) (pc1 := 44) (pc := 43) k_La_add_43 rfl (by decide) ?_ <;> try ((first | with_reducible refine T_isubN (pc1 := 45) (pc := 44) k_La_add_44 (by decide) (by omega) ?_ | refine T_isub (pc1 := 45) (pc := 44) k_La_add_44 rfl ?_) <;> try (refine T_retI (pc := 45) k_La_add_45 rfl (by first | rfl | decide | assumption) ?_)))))))
    | refine T_getV (pc1 := 4) (pc := 1) k_La_add_1 rfl f_La_17 rfl (by first | assumption | exact ga G (by decide) rfl | exact lgA LG (by omega)) (by first | assumption | (simp (disch := omega) only [pI_eq, pI_row, pI_col, va_up_self, va_up_ne, ne_eq, not_false_eq_true, h5] <;> rfl) | rfl) ?_
    | refine T_bipush (v := (nI 14)) (pc1 := 6) (pc := 4) k_La_add_4 rfl (by decide) ?_
    | (with_reducible refine T_icmp_ltN (tgt := 12) (pc1 := 9) (pc := 6) k_La_add_6 (by decide) (by decide) (by omega) (by omega) (fun hc => ?_) (fun hc => ?_) <;> first | (exfalso; omega) | skip)
    | refine T_icmp_lt_t (tgt := 12) (pc := 6) k_La_add_6 rfl (by decide) ?_
    | refine T_icmp_lt_f (tgt := 12) (pc1 := 9) (pc := 6) k_La_add_6 rfl rfl (by decide) ?_
    | refine T_icmp_lt (tgt := 12) (pc1 := 9) (pc := 6) k_La_add_6 rfl rfl (fun hc => ?_) (fun hc => ?_)
    | refine T_retI (pc := 11) k_La_add_11 rfl (by first | rfl | decide | assumption) ?_
    | refine T_getR (pc1 := 16) (pc := 13) k_La_add_13 rfl f_La_11 rfl (by first | assumption | exact ga G (by decide) rfl | exact lgA LG (by omega)) (by first | assumption | exact gr G (by decide) rfl | exact lgR LG (by omega)) ?_
    | refine T_aload_n (pc1 := 17) (pc := 16) k_La_add_16 rfl rfl ?_
    | refine T_aload_nN (pc1 := 17) (pc := 16) k_La_add_16 rfl rfl ?_
    | refine T_getV (pc1 := 20) (pc := 17) k_La_add_17 rfl f_La_17 rfl (by first | assumption | exact ga G (by decide) rfl | exact lgA LG (by omega)) (by first | assumption | (simp (disch := omega) only [pI_eq, pI_row, pI_col, va_up_self, va_up_ne, ne_eq, not_false_eq_true, h5] <;> rfl) | rfl) ?_
    | refine T_aaldQ (e0 := 4) (pc1 := 21) (pc := 20) k_La_add_20 rfl (by first | assumption | exact ga G (by decide) rfl | exact lgA LG (by omega)) (by decide) (by omega) (by omega) (by first | assumption | exact gr G (by decide) rfl | exact lgR LG (by omega)) ?_
    | refine T_aaldQ (e0 := 0) (pc1 := 21) (pc := 20) k_La_add_20 rfl (by first | assumption | exact ga G (by decide) rfl | exact lgA LG (by omega)) (by decide) (by omega) (by omega) (by first | assumption | exact gr G (by decide) rfl | exact lgR LG (by omega)) ?_
    | refine T_aaldQ (e0 := 1) (pc1 := 21) (pc := 20) k_La_add_20 rfl (by first | assumption | exact ga G (by decide) rfl | exact lgA LG (by omega)) (by decide) (by omega) (by omega) (by first | assumption | exact gr G (by decide) rfl | exact lgR LG (by omega)) ?_
    | refine T_aaldQ (e0 := 2) (pc1 := 21) (pc := 20) k_La_add_20 rfl (by first | assumption | exact ga G (by decide) rfl | exact lgA LG (by omega)) (by decide) (by omega) (by omega) (by first | assumption | exact gr G (by decide) rfl | exact lgR LG (by omega)) ?_
    | refine T_aaldQ (e0 := 3) (pc1 := 21) (pc := 20) k_La_add_20 rfl (by first | assumption | exact ga G (by decide) rfl | exact lgA LG (by omega)) (by decide) (by omega) (by omega) (by first | assumption | exact gr G (by decide) rfl | exact lgR LG (by omega)) ?_
    | refine T_iload_n (pc1 := 22) (pc := 21) k_La_add_21 rfl rfl ?_
    | refine T_iload_n (pc1 := 23) (pc := 22) k_La_add_22 rfl rfl ?_
    | refine T_iload_n (pc1 := 24) (pc := 23) k_La_add_23 rfl rfl ?_
    | refine T_iload (pc1 := 26) (pc := 24) k_La_add_24 rfl rfl ?_
    | (refine T_cV (As := [_, _, _, _]) (d1 := 1) (pc1 := 29) (pc := 26) k_La_add_26 rfl (by decide) (Nat.le_of_ble_eq_true rfl) rfl o_B_become l_La_76 rfl (by first | assumption | exact ga G (by decide) rfl | exact lgA LG (by omega)) rfl (c_B_become gb ?_) <;> try dsimp only [psh])
    | refine T_aload_n (pc1 := 30) (pc := 29) k_La_add_29 rfl rfl ?_
    | refine T_aload_nN (pc1 := 30) (pc := 29) k_La_add_29 rfl rfl ?_
    | refine T_dup (pc1 := 31) (pc := 30) k_La_add_30 rfl rfl ?_
    | refine T_getV (pc1 := 34) (pc := 31) k_La_add_31 rfl f_La_17 rfl (by first | assumption | exact ga G (by decide) rfl | exact lgA LG (by omega)) (by first | assumption | (simp (disch := omega) only [pI_eq, pI_row, pI_col, va_up_self, va_up_ne, ne_eq, not_false_eq_true, h5] <;> rfl) | rfl) ?_
    | refine T_iconst (v := (nI 1)) (pc1 := 35) (pc := 34) k_La_add_34 rfl (by decide) ?_
    | refine T_putI (pc1 := 39) (pc := 36) k_La_add_36 rfl f_La_17 rfl (by first | assumption | exact ga G (by decide) rfl | exact lgA LG (by omega)) (by first | rfl | decide | assumption) (by first | rfl | decide | assumption) ?_
    | refine T_aload_n (pc1 := 40) (pc := 39) k_La_add_39 rfl rfl ?_
    | refine T_aload_nN (pc1 := 40) (pc := 39) k_La_add_39 rfl rfl ?_
    | refine T_getV (pc1 := 43) (pc := 40) k_La_add_40 rfl f_La_17 rfl (by first | assumption | exact ga G (by decide) rfl | exact lgA LG (by omega)) (by first | assumption | (simp (disch := omega) only [pI_eq, pI_row, pI_col, va_up_self, va_up_ne, ne_eq, not_false_eq_true, h5] <;> rfl) | rfl) ?_
    | refine T_iconst (v := (nI 1)) (pc1 := 44) (pc := 43) k_La_add_43 rfl (by decide) ?_
    | with_reducible refine T_isubN (pc1 := 45) (pc := 44) k_La_add_44 (by decide) (by omega) ?_
    | refine T_isub (pc1 := 45) (pc := 44) k_La_add_44 rfl ?_
    | refine T_retI (pc := 45) k_La_add_45 rfl (by first | rfl | decide | assumption) ?_)
  all_goals try (exfalso; omega)
  rw [show n + 1 - 1 = n by omega]
  exact kk
theorem c_La_draw {a : Nat} {z : Int32} (hA : isAg g a 1 11) (hz : I a 6 = z) (kk : K (some (.int (nI (dq (dz z))))) g (pI I a 6 (dz z))) : Cl 1 M_La_draw [.ref a] g I K := by
  show Rl 1 M_La_draw 0 [some (.ref a)] [] g I K
  have h2 := dq_lt (dz z)
  repeat' (first
    | ((first | refine T_aload_n (pc1 := 1) (pc := 0) k_La_draw_0 rfl rfl ?_ | refine T_aload_nN (pc1 := 1) (pc := 0) k_La_draw_0 rfl rfl ?_) <;> try ((first | refine T_aload_n (pc1 := 2) (pc := 1) k_La_draw_1 rfl rfl ?_ | refine T_aload_nN (pc1 := 2) (pc := 1) k_La_draw_1 rfl rfl ?_) <;> try (refine T_getV (pc1 := 5) (pc := 2) k_La_draw_2 rfl f_La_33 rfl (by first | assumption | exact ga G (by decide) rfl | exact lgA LG (by omega)) (by first | assumption | (simp (disch := omega) only [pI_eq, pI_row, pI_col, va_up_self, va_up_ne, ne_eq, not_false_eq_true, hz] <;> rfl) | rfl) ?_ <;> try (refine T_ldc (v := (nI 1103515245)) (pc1 := 7) (pc := 5) k_La_draw_5 rfl c_La_88 ?_ <;> try ((first | with_reducible refine T_imulN (pc1 := 8) (pc := 7) k_La_draw_7 (by decide) ?_ | refine T_imul (pc1 := 8) (pc := 7) k_La_draw_7 rfl ?_) <;> try (refine T_sipush (v := (nI 12345)) (pc1 := 11) (pc := 8) k_La_draw_8 rfl (by decide) ?_ <;> try ((first | with_reducible refine T_iaddN (pc1 := 12) (pc := 11) k_La_draw_11 (by decide) ?_ | refine T_iadd (pc1 := 12) (pc := 11) k_La_draw_11 rfl ?_) <;> try (refine T_putI (pc1 := 15) (pc := 12) k_La_draw_12 rfl f_La_33 rfl (by first | assumption | exact ga G (by decide) rfl | exact lgA LG (by omega)) (by first | rfl | decide | assumption) (by first | rfl | decide | assumption) ?_ <;> try ((first | refine T_aload_n (pc1 := 16) (pc := 15) k_La_draw_15 rfl rfl ?_ | refine T_aload_nN (pc1 := 16) (pc := 15) k_La_draw_15 rfl rfl ?_) <;> try (refine T_getV (pc1 := 19) (pc := 16) k_La_draw_16 rfl f_La_33 rfl (by first | assumption | exact ga G (by decide) rfl | exact lgA LG (by omega)) (by first | assumption | (simp (disch := omega) only [pI_eq, pI_row, pI_col, va_up_self, va_up_ne, ne_eq, not_false_eq_true, hz] <;> rfl) | rfl) ?_ <;> try (refine T_bipush (v := (nI 8)) (pc1 := 21) (pc := 19) k_La_draw_19 rfl (by decide) ?_)))))))))))
    | (refine T_retI (pc := 22) k_La_draw_22 rfl (by first | rfl | decide | assumption) ?_)
    | refine T_aload_n (pc1 := 2) (pc := 1) k_La_draw_1 rfl rfl ?_
    | refine T_aload_nN (pc1 := 2) (pc := 1) k_La_draw_1 rfl rfl ?_
    | refine T_getV (pc1 := 5) (pc := 2) k_La_draw_2 rfl f_La_33 rfl (by first | assumption | exact ga G (by decide) rfl | exact lgA LG (by omega)) (by first | assumption | (simp (disch := omega) only [pI_eq, pI_row, pI_col, va_up_self, va_up_ne, ne_eq, not_false_eq_true, hz] <;> rfl) | rfl) ?_
    | refine T_ldc (v := (nI 1103515245)) (pc1 := 7) (pc := 5) k_La_draw_5 rfl c_La_88 ?_
    | with_reducible refine T_imulN (pc1 := 8) (pc := 7) k_La_draw_7 (by decide) ?_
    | refine T_imul (pc1 := 8) (pc := 7) k_La_draw_7 rfl ?_
    | refine T_sipush (v := (nI 12345)) (pc1 := 11) (pc := 8) k_La_draw_8 rfl (by decide) ?_
    | with_reducible refine T_iaddN (pc1 := 12) (pc := 11) k_La_draw_11 (by decide) ?_
    | refine T_iadd (pc1 := 12) (pc := 11) k_La_draw_11 rfl ?_
    | refine T_putI (pc1 := 15) (pc := 12) k_La_draw_12 rfl f_La_33 rfl (by first | assumption | exact ga G (by decide) rfl | exact lgA LG (by omega)) (by first | rfl | decide | assumption) (by first | rfl | decide | assumption) ?_
    | refine T_aload_n (pc1 := 16) (pc := 15) k_La_draw_15 rfl rfl ?_
    | refine T_aload_nN (pc1 := 16) (pc := 15) k_La_draw_15 rfl rfl ?_
    | refine T_getV (pc1 := 19) (pc := 16) k_La_draw_16 rfl f_La_33 rfl (by first | assumption | exact ga G (by decide) rfl | exact lgA LG (by omega)) (by first | assumption | (simp (disch := omega) only [pI_eq, pI_row, pI_col, va_up_self, va_up_ne, ne_eq, not_false_eq_true, hz] <;> rfl) | rfl) ?_
    | refine T_bipush (v := (nI 8)) (pc1 := 21) (pc := 19) k_La_draw_19 rfl (by decide) ?_)
  show Rl _ _ _ _ [.int (nI 8), .int (dz z)] _ _ _
  repeat' (first
    | ((refine T_iushr (pc1 := 22) (pc := 21) k_La_draw_21 rfl ?_; rw [dq_eq]) <;> try (refine T_retI (pc := 22) k_La_draw_22 rfl (by first | rfl | decide | assumption) ?_))
    | refine T_retI (pc := 22) k_La_draw_22 rfl (by first | rfl | decide | assumption) ?_)
  exact kk
theorem c_La_troddenInAll {a n tn : Nat} {N : Row} (LG : LandG g a) (ok : okL N n tn) (LB : LBt I a N n) (kk : K (some (.int (trdS N n))) g I) : Cl 1 M_La_troddenInAll [.ref a] g I K := by
  show Rl 1 M_La_troddenInAll 0 [some (.ref a), none, none] [] g I K
  have h14 := ok.2.1
  obtain ⟨g1, g2, g3, g4, g5, g6, g7, g8, g9, g10, g11, g12, g13, g14⟩ := id LG
  obtain ⟨b1, b2, b3, b4⟩ := id LB
  have loop : ∀ q b, b + q = n → Rl 1 M_La_troddenInAll 4 [some (.ref a), some (.int (trdS N b)), some (.int (nI b))] [] g I K := by
    intro q
    induction q with
    | zero =>
      intro b hb
      have hb : b = n := by omega
      subst hb
      repeat' (first
        | (refine T_iload_n (pc1 := 5) (pc := 4) k_La_troddenInAll_4 rfl rfl ?_ <;> try ((first | refine T_aload_n (pc1 := 6) (pc := 5) k_La_troddenInAll_5 rfl rfl ?_ | refine T_aload_nN (pc1 := 6) (pc := 5) k_La_troddenInAll_5 rfl rfl ?_) <;> try (refine T_getV (pc1 := 9) (pc := 6) k_La_troddenInAll_6 rfl f_La_17 rfl (by first | assumption | exact ga G (by decide) rfl | exact lgA LG (by omega)) (by first | assumption | (simp (disch := omega) only [pI_eq, pI_row, pI_col, va_up_self, va_up_ne, ne_eq, not_false_eq_true] <;> rfl) | rfl) ?_ <;> try ((first | (with_reducible refine T_icmp_geN (tgt := 30) (pc1 := 12) (pc := 9) k_La_troddenInAll_9 (by decide) (by decide) (by omega) (by omega) (fun hc => ?_) (fun hc => ?_) <;> first | (exfalso; omega) | skip) | refine T_icmp_ge_t (tgt := 30) (pc := 9) k_La_troddenInAll_9 rfl (by decide) ?_ | refine T_icmp_ge_f (tgt := 30) (pc1 := 12) (pc := 9) k_La_troddenInAll_9 rfl rfl (by decide) ?_ | refine T_icmp_ge (tgt := 30) (pc1 := 12) (pc := 9) k_La_troddenInAll_9 rfl rfl (fun hc => ?_) (fun hc => ?_))))))
        | (refine T_iload_n (pc1 := 31) (pc := 30) k_La_troddenInAll_30 rfl rfl ?_ <;> try (refine T_retI (pc := 31) k_La_troddenInAll_31 rfl (by first | rfl | decide | assumption) ?_))
        | refine T_aload_n (pc1 := 6) (pc := 5) k_La_troddenInAll_5 rfl rfl ?_
        | refine T_aload_nN (pc1 := 6) (pc := 5) k_La_troddenInAll_5 rfl rfl ?_
        | refine T_getV (pc1 := 9) (pc := 6) k_La_troddenInAll_6 rfl f_La_17 rfl (by first | assumption | exact ga G (by decide) rfl | exact lgA LG (by omega)) (by first | assumption | (simp (disch := omega) only [pI_eq, pI_row, pI_col, va_up_self, va_up_ne, ne_eq, not_false_eq_true] <;> rfl) | rfl) ?_
        | (with_reducible refine T_icmp_geN (tgt := 30) (pc1 := 12) (pc := 9) k_La_troddenInAll_9 (by decide) (by decide) (by omega) (by omega) (fun hc => ?_) (fun hc => ?_) <;> first | (exfalso; omega) | skip)
        | refine T_icmp_ge_t (tgt := 30) (pc := 9) k_La_troddenInAll_9 rfl (by decide) ?_
        | refine T_icmp_ge_f (tgt := 30) (pc1 := 12) (pc := 9) k_La_troddenInAll_9 rfl rfl (by decide) ?_
        | refine T_icmp_ge (tgt := 30) (pc1 := 12) (pc := 9) k_La_troddenInAll_9 rfl rfl (fun hc => ?_) (fun hc => ?_)
        | refine T_retI (pc := 31) k_La_troddenInAll_31 rfl (by first | rfl | decide | assumption) ?_)
      exact kk
    | succ q ih =>
      intro b hb
      have ih := ih (b + 1) (by omega)
      rw [trdS] at ih
      have e := b4 b (by omega) 4 (by decide)
      generalize trdS N b = A at *
      refine T_iload_n (pc1 := 5) (pc := 4) k_La_troddenInAll_4 rfl rfl ?_
      repeat' (first
        | ((first | refine T_aload_n (pc1 := 6) (pc := 5) k_La_troddenInAll_5 rfl rfl ?_ | refine T_aload_nN (pc1 := 6) (pc := 5) k_La_troddenInAll_5 rfl rfl ?_) <;> try (refine T_getV (pc1 := 9) (pc := 6) k_La_troddenInAll_6 rfl f_La_17 rfl (by first | assumption | exact ga G (by decide) rfl | exact lgA LG (by omega)) (by first | assumption | (simp (disch := omega) only [pI_eq, pI_row, pI_col, va_up_self, va_up_ne, ne_eq, not_false_eq_true] <;> rfl) | rfl) ?_ <;> try ((first | (with_reducible refine T_icmp_geN (tgt := 30) (pc1 := 12) (pc := 9) k_La_troddenInAll_9 (by decide) (by decide) (by omega) (by omega) (fun hc => ?_) (fun hc => ?_) <;> first | (exfalso; omega) | skip) | refine T_icmp_ge_t (tgt := 30) (pc := 9) k_La_troddenInAll_9 rfl (by decide) ?_ | refine T_icmp_ge_f (tgt := 30) (pc1 := 12) (pc := 9) k_La_troddenInAll_9 rfl rfl (by decide) ?_ | refine T_icmp_ge (tgt := 30) (pc1 := 12) (pc := 9) k_La_troddenInAll_9 rfl rfl (fun hc => ?_) (fun hc => ?_)))))
        | (refine T_iload_n (pc1 := 13) (pc := 12) k_La_troddenInAll_12 rfl rfl ?_ <;> try ((first | refine T_aload_n (pc1 := 14) (pc := 13) k_La_troddenInAll_13 rfl rfl ?_ | refine T_aload_nN (pc1 := 14) (pc := 13) k_La_troddenInAll_13 rfl rfl ?_) <;> try (refine T_getR (pc1 := 17) (pc := 14) k_La_troddenInAll_14 rfl f_La_11 rfl (by first | assumption | exact ga G (by decide) rfl | exact lgA LG (by omega)) (by first | assumption | exact gr G (by decide) rfl | exact lgR LG (by omega)) ?_ <;> try (refine T_iload_n (pc1 := 18) (pc := 17) k_La_troddenInAll_17 rfl rfl ?_ <;> try ((first | refine T_aaldQ (e0 := 4) (pc1 := 19) (pc := 18) k_La_troddenInAll_18 rfl (by first | assumption | exact ga G (by decide) rfl | exact lgA LG (by omega)) (by decide) (by omega) (by omega) (by first | assumption | exact gr G (by decide) rfl | exact lgR LG (by omega)) ?_ | refine T_aaldQ (e0 := 0) (pc1 := 19) (pc := 18) k_La_troddenInAll_18 rfl (by first | assumption | exact ga G (by decide) rfl | exact lgA LG (by omega)) (by decide) (by omega) (by omega) (by first | assumption | exact gr G (by decide) rfl | exact lgR LG (by omega)) ?_ | refine T_aaldQ (e0 := 1) (pc1 := 19) (pc := 18) k_La_troddenInAll_18 rfl (by first | assumption | exact ga G (by decide) rfl | exact lgA LG (by omega)) (by decide) (by omega) (by omega) (by first | assumption | exact gr G (by decide) rfl | exact lgR LG (by omega)) ?_ | refine T_aaldQ (e0 := 2) (pc1 := 19) (pc := 18) k_La_troddenInAll_18 rfl (by first | assumption | exact ga G (by decide) rfl | exact lgA LG (by omega)) (by decide) (by omega) (by omega) (by first | assumption | exact gr G (by decide) rfl | exact lgR LG (by omega)) ?_ | refine T_aaldQ (e0 := 3) (pc1 := 19) (pc := 18) k_La_troddenInAll_18 rfl (by first | assumption | exact ga G (by decide) rfl | exact lgA LG (by omega)) (by decide) (by omega) (by omega) (by first | assumption | exact gr G (by decide) rfl | exact lgR LG (by omega)) ?_) <;> try (refine T_getV (pc1 := 22) (pc := 19) k_La_troddenInAll_19 rfl f_La_106 rfl (by first | assumption | exact ga G (by decide) rfl | exact lgA LG (by omega)) (by first | assumption | (simp (disch := omega) only [pI_eq, pI_row, pI_col, va_up_self, va_up_ne, ne_eq, not_false_eq_true] <;> rfl) | rfl) ?_ <;> try (refine T_iadd (pc1 := 23) (pc := 22) k_La_troddenInAll_22 rfl ?_ <;> try (refine T_istore_n (pc1 := 24) (pc := 23) k_La_troddenInAll_23 rfl (Nat.le_of_ble_eq_true rfl) ?_ <;> try ((first | refine T_iincN (b := 1) (pc1 := 27) (pc := 24) k_La_troddenInAll_24 rfl rfl (by decide) ?_ | refine T_iinc (v := (nI 1)) (pc1 := 27) (pc := 24) k_La_troddenInAll_24 rfl rfl (by decide) ?_) <;> try (refine T_goto (tgt := 4) (pc := 27) k_La_troddenInAll_27 rfl ?_))))))))))
        | refine T_getV (pc1 := 9) (pc := 6) k_La_troddenInAll_6 rfl f_La_17 rfl (by first | assumption | exact ga G (by decide) rfl | exact lgA LG (by omega)) (by first | assumption | (simp (disch := omega) only [pI_eq, pI_row, pI_col, va_up_self, va_up_ne, ne_eq, not_false_eq_true] <;> rfl) | rfl) ?_
        | (with_reducible refine T_icmp_geN (tgt := 30) (pc1 := 12) (pc := 9) k_La_troddenInAll_9 (by decide) (by decide) (by omega) (by omega) (fun hc => ?_) (fun hc => ?_) <;> first | (exfalso; omega) | skip)
        | refine T_icmp_ge_t (tgt := 30) (pc := 9) k_La_troddenInAll_9 rfl (by decide) ?_
        | refine T_icmp_ge_f (tgt := 30) (pc1 := 12) (pc := 9) k_La_troddenInAll_9 rfl rfl (by decide) ?_
        | refine T_icmp_ge (tgt := 30) (pc1 := 12) (pc := 9) k_La_troddenInAll_9 rfl rfl (fun hc => ?_) (fun hc => ?_)
        | refine T_aload_n (pc1 := 14) (pc := 13) k_La_troddenInAll_13 rfl rfl ?_
        | refine T_aload_nN (pc1 := 14) (pc := 13) k_La_troddenInAll_13 rfl rfl ?_
        | refine T_getR (pc1 := 17) (pc := 14) k_La_troddenInAll_14 rfl f_La_11 rfl (by first | assumption | exact ga G (by decide) rfl | exact lgA LG (by omega)) (by first | assumption | exact gr G (by decide) rfl | exact lgR LG (by omega)) ?_
        | refine T_iload_n (pc1 := 18) (pc := 17) k_La_troddenInAll_17 rfl rfl ?_
        | refine T_aaldQ (e0 := 4) (pc1 := 19) (pc := 18) k_La_troddenInAll_18 rfl (by first | assumption | exact ga G (by decide) rfl | exact lgA LG (by omega)) (by decide) (by omega) (by omega) (by first | assumption | exact gr G (by decide) rfl | exact lgR LG (by omega)) ?_
        | refine T_aaldQ (e0 := 0) (pc1 := 19) (pc := 18) k_La_troddenInAll_18 rfl (by first | assumption | exact ga G (by decide) rfl | exact lgA LG (by omega)) (by decide) (by omega) (by omega) (by first | assumption | exact gr G (by decide) rfl | exact lgR LG (by omega)) ?_
        | refine T_aaldQ (e0 := 1) (pc1 := 19) (pc := 18) k_La_troddenInAll_18 rfl (by first | assumption | exact ga G (by decide) rfl | exact lgA LG (by omega)) (by decide) (by omega) (by omega) (by first | assumption | exact gr G (by decide) rfl | exact lgR LG (by omega)) ?_
        | refine T_aaldQ (e0 := 2) (pc1 := 19) (pc := 18) k_La_troddenInAll_18 rfl (by first | assumption | exact ga G (by decide) rfl | exact lgA LG (by omega)) (by decide) (by omega) (by omega) (by first | assumption | exact gr G (by decide) rfl | exact lgR LG (by omega)) ?_
        | refine T_aaldQ (e0 := 3) (pc1 := 19) (pc := 18) k_La_troddenInAll_18 rfl (by first | assumption | exact ga G (by decide) rfl | exact lgA LG (by omega)) (by decide) (by omega) (by omega) (by first | assumption | exact gr G (by decide) rfl | exact lgR LG (by omega)) ?_
        | refine T_getV (pc1 := 22) (pc := 19) k_La_troddenInAll_19 rfl f_La_106 rfl (by first | assumption | exact ga G (by decide) rfl | exact lgA LG (by omega)) (by first | assumption | (simp (disch := omega) only [pI_eq, pI_row, pI_col, va_up_self, va_up_ne, ne_eq, not_false_eq_true] <;> rfl) | rfl) ?_
        | refine T_iadd (pc1 := 23) (pc := 22) k_La_troddenInAll_22 rfl ?_
        | refine T_istore_n (pc1 := 24) (pc := 23) k_La_troddenInAll_23 rfl (Nat.le_of_ble_eq_true rfl) ?_
        | refine T_iincN (b := 1) (pc1 := 27) (pc := 24) k_La_troddenInAll_24 rfl rfl (by decide) ?_
        | refine T_iinc (v := (nI 1)) (pc1 := 27) (pc := 24) k_La_troddenInAll_24 rfl rfl (by decide) ?_
        | refine T_goto (tgt := 4) (pc := 27) k_La_troddenInAll_27 rfl ?_)
      exact ih
  repeat' (first
    | (refine T_iconst (v := (nI 0)) (pc1 := 1) (pc := 0) k_La_troddenInAll_0 rfl (by decide) ?_ <;> try (refine T_istore_n (pc1 := 2) (pc := 1) k_La_troddenInAll_1 rfl (Nat.le_of_ble_eq_true rfl) ?_ <;> try (refine T_iconst (v := (nI 0)) (pc1 := 3) (pc := 2) k_La_troddenInAll_2 rfl (by decide) ?_ <;> try (refine T_istore_n (pc1 := 4) (pc := 3) k_La_troddenInAll_3 rfl (Nat.le_of_ble_eq_true rfl) ?_))))
    | refine T_istore_n (pc1 := 2) (pc := 1) k_La_troddenInAll_1 rfl (Nat.le_of_ble_eq_true rfl) ?_
    | refine T_iconst (v := (nI 0)) (pc1 := 3) (pc := 2) k_La_troddenInAll_2 rfl (by decide) ?_
    | refine T_istore_n (pc1 := 4) (pc := 3) k_La_troddenInAll_3 rfl (Nat.le_of_ble_eq_true rfl) ?_)
  exact loop n 0 (by omega)
theorem c_La_saidInAll {a n tn : Nat} {N : Row} (LG : LandG g a) (ok : okL N n tn) (LB : LBt I a N n) (kk : K (some (.int (nI (hsC N n)))) g I) : Cl 1 M_La_saidInAll [.ref a] g I K := by
  show Rl 1 M_La_saidInAll 0 [some (.ref a), none, none] [] g I K
  have h14 := ok.2.1
  obtain ⟨g1, g2, g3, g4, g5, g6, g7, g8, g9, g10, g11, g12, g13, g14⟩ := id LG
  obtain ⟨b1, b2, b3, b4⟩ := id LB
  have loop : ∀ q b, b + q = n → Rl 1 M_La_saidInAll 4 [some (.ref a), some (.int (nI (hsC N b))), some (.int (nI b))] [] g I K := by
    intro q
    induction q with
    | zero =>
      intro b hb
      have hb : b = n := by omega
      subst hb
      repeat' (first
        | (refine T_iload_n (pc1 := 5) (pc := 4) k_La_saidInAll_4 rfl rfl ?_ <;> try ((first | refine T_aload_n (pc1 := 6) (pc := 5) k_La_saidInAll_5 rfl rfl ?_ | refine T_aload_nN (pc1 := 6) (pc := 5) k_La_saidInAll_5 rfl rfl ?_) <;> try (refine T_getV (pc1 := 9) (pc := 6) k_La_saidInAll_6 rfl f_La_17 rfl (by first | assumption | exact ga G (by decide) rfl | exact lgA LG (by omega)) (by first | assumption | (simp (disch := omega) only [pI_eq, pI_row, pI_col, va_up_self, va_up_ne, ne_eq, not_false_eq_true] <;> rfl) | rfl) ?_ <;> try ((first | (with_reducible refine T_icmp_geN (tgt := 40) (pc1 := 12) (pc := 9) k_La_saidInAll_9 (by decide) (by decide) (by omega) (by omega) (fun hc => ?_) (fun hc => ?_) <;> first | (exfalso; omega) | skip) | refine T_icmp_ge_t (tgt := 40) (pc := 9) k_La_saidInAll_9 rfl (by decide) ?_ | refine T_icmp_ge_f (tgt := 40) (pc1 := 12) (pc := 9) k_La_saidInAll_9 rfl rfl (by decide) ?_ | refine T_icmp_ge (tgt := 40) (pc1 := 12) (pc := 9) k_La_saidInAll_9 rfl rfl (fun hc => ?_) (fun hc => ?_))))))
        | (refine T_iload_n (pc1 := 41) (pc := 40) k_La_saidInAll_40 rfl rfl ?_ <;> try (refine T_retI (pc := 41) k_La_saidInAll_41 rfl (by first | rfl | decide | assumption) ?_))
        | refine T_aload_n (pc1 := 6) (pc := 5) k_La_saidInAll_5 rfl rfl ?_
        | refine T_aload_nN (pc1 := 6) (pc := 5) k_La_saidInAll_5 rfl rfl ?_
        | refine T_getV (pc1 := 9) (pc := 6) k_La_saidInAll_6 rfl f_La_17 rfl (by first | assumption | exact ga G (by decide) rfl | exact lgA LG (by omega)) (by first | assumption | (simp (disch := omega) only [pI_eq, pI_row, pI_col, va_up_self, va_up_ne, ne_eq, not_false_eq_true] <;> rfl) | rfl) ?_
        | (with_reducible refine T_icmp_geN (tgt := 40) (pc1 := 12) (pc := 9) k_La_saidInAll_9 (by decide) (by decide) (by omega) (by omega) (fun hc => ?_) (fun hc => ?_) <;> first | (exfalso; omega) | skip)
        | refine T_icmp_ge_t (tgt := 40) (pc := 9) k_La_saidInAll_9 rfl (by decide) ?_
        | refine T_icmp_ge_f (tgt := 40) (pc1 := 12) (pc := 9) k_La_saidInAll_9 rfl rfl (by decide) ?_
        | refine T_icmp_ge (tgt := 40) (pc1 := 12) (pc := 9) k_La_saidInAll_9 rfl rfl (fun hc => ?_) (fun hc => ?_)
        | refine T_retI (pc := 41) k_La_saidInAll_41 rfl (by first | rfl | decide | assumption) ?_)
      exact kk
    | succ q ih =>
      intro b hb
      have hle := hsC_le N b
      have ih := ih (b + 1) (by omega)
      rw [hsC] at ih
      have e := b4 b (by omega) 5 (by decide)
      refine T_iload_n (pc1 := 5) (pc := 4) k_La_saidInAll_4 rfl rfl ?_
      repeat' (first
        | ((first | refine T_aload_n (pc1 := 6) (pc := 5) k_La_saidInAll_5 rfl rfl ?_ | refine T_aload_nN (pc1 := 6) (pc := 5) k_La_saidInAll_5 rfl rfl ?_) <;> try (refine T_getV (pc1 := 9) (pc := 6) k_La_saidInAll_6 rfl f_La_17 rfl (by first | assumption | exact ga G (by decide) rfl | exact lgA LG (by omega)) (by first | assumption | (simp (disch := omega) only [pI_eq, pI_row, pI_col, va_up_self, va_up_ne, ne_eq, not_false_eq_true] <;> rfl) | rfl) ?_ <;> try ((first | (with_reducible refine T_icmp_geN (tgt := 40) (pc1 := 12) (pc := 9) k_La_saidInAll_9 (by decide) (by decide) (by omega) (by omega) (fun hc => ?_) (fun hc => ?_) <;> first | (exfalso; omega) | skip) | refine T_icmp_ge_t (tgt := 40) (pc := 9) k_La_saidInAll_9 rfl (by decide) ?_ | refine T_icmp_ge_f (tgt := 40) (pc1 := 12) (pc := 9) k_La_saidInAll_9 rfl rfl (by decide) ?_ | refine T_icmp_ge (tgt := 40) (pc1 := 12) (pc := 9) k_La_saidInAll_9 rfl rfl (fun hc => ?_) (fun hc => ?_)))))
        | (refine T_iload_n (pc1 := 13) (pc := 12) k_La_saidInAll_12 rfl rfl ?_ <;> try ((first | refine T_aload_n (pc1 := 14) (pc := 13) k_La_saidInAll_13 rfl rfl ?_ | refine T_aload_nN (pc1 := 14) (pc := 13) k_La_saidInAll_13 rfl rfl ?_) <;> try (refine T_getR (pc1 := 17) (pc := 14) k_La_saidInAll_14 rfl f_La_11 rfl (by first | assumption | exact ga G (by decide) rfl | exact lgA LG (by omega)) (by first | assumption | exact gr G (by decide) rfl | exact lgR LG (by omega)) ?_ <;> try (refine T_iload_n (pc1 := 18) (pc := 17) k_La_saidInAll_17 rfl rfl ?_ <;> try ((first | refine T_aaldQ (e0 := 4) (pc1 := 19) (pc := 18) k_La_saidInAll_18 rfl (by first | assumption | exact ga G (by decide) rfl | exact lgA LG (by omega)) (by decide) (by omega) (by omega) (by first | assumption | exact gr G (by decide) rfl | exact lgR LG (by omega)) ?_ | refine T_aaldQ (e0 := 0) (pc1 := 19) (pc := 18) k_La_saidInAll_18 rfl (by first | assumption | exact ga G (by decide) rfl | exact lgA LG (by omega)) (by decide) (by omega) (by omega) (by first | assumption | exact gr G (by decide) rfl | exact lgR LG (by omega)) ?_ | refine T_aaldQ (e0 := 1) (pc1 := 19) (pc := 18) k_La_saidInAll_18 rfl (by first | assumption | exact ga G (by decide) rfl | exact lgA LG (by omega)) (by decide) (by omega) (by omega) (by first | assumption | exact gr G (by decide) rfl | exact lgR LG (by omega)) ?_ | refine T_aaldQ (e0 := 2) (pc1 := 19) (pc := 18) k_La_saidInAll_18 rfl (by first | assumption | exact ga G (by decide) rfl | exact lgA LG (by omega)) (by decide) (by omega) (by omega) (by first | assumption | exact gr G (by decide) rfl | exact lgR LG (by omega)) ?_ | refine T_aaldQ (e0 := 3) (pc1 := 19) (pc := 18) k_La_saidInAll_18 rfl (by first | assumption | exact ga G (by decide) rfl | exact lgA LG (by omega)) (by decide) (by omega) (by omega) (by first | assumption | exact gr G (by decide) rfl | exact lgR LG (by omega)) ?_) <;> try (refine T_getV (pc1 := 22) (pc := 19) k_La_saidInAll_19 rfl f_La_116 rfl (by first | assumption | exact ga G (by decide) rfl | exact lgA LG (by omega)) (by first | assumption | (simp (disch := omega) only [pI_eq, pI_row, pI_col, va_up_self, va_up_ne, ne_eq, not_false_eq_true] <;> rfl) | rfl) ?_ <;> try (refine T_ldc (v := (-1000000005)) (pc1 := 24) (pc := 22) k_La_saidInAll_22 rfl c_La_45 ?_ <;> try (refine T_icmp_eq (tgt := 31) (pc1 := 27) (pc := 24) k_La_saidInAll_24 rfl rfl (fun hc => ?_) (fun hc => ?_)))))))))
        | (refine T_iconst (v := (nI 1)) (pc1 := 28) (pc := 27) k_La_saidInAll_27 rfl (by decide) ?_ <;> try (refine T_goto (tgt := 32) (pc := 28) k_La_saidInAll_28 rfl ?_))
        | (refine T_iconst (v := (nI 0)) (pc1 := 32) (pc := 31) k_La_saidInAll_31 rfl (by decide) ?_)
        | ((first | with_reducible refine T_iaddN (pc1 := 33) (pc := 32) k_La_saidInAll_32 (by decide) ?_ | refine T_iadd (pc1 := 33) (pc := 32) k_La_saidInAll_32 rfl ?_) <;> try (refine T_istore_n (pc1 := 34) (pc := 33) k_La_saidInAll_33 rfl (Nat.le_of_ble_eq_true rfl) ?_ <;> try ((first | refine T_iincN (b := 1) (pc1 := 37) (pc := 34) k_La_saidInAll_34 rfl rfl (by decide) ?_ | refine T_iinc (v := (nI 1)) (pc1 := 37) (pc := 34) k_La_saidInAll_34 rfl rfl (by decide) ?_) <;> try (refine T_goto (tgt := 4) (pc := 37) k_La_saidInAll_37 rfl ?_))))
        | refine T_getV (pc1 := 9) (pc := 6) k_La_saidInAll_6 rfl f_La_17 rfl (by first | assumption | exact ga G (by decide) rfl | exact lgA LG (by omega)) (by first | assumption | (simp (disch := omega) only [pI_eq, pI_row, pI_col, va_up_self, va_up_ne, ne_eq, not_false_eq_true] <;> rfl) | rfl) ?_
        | (with_reducible refine T_icmp_geN (tgt := 40) (pc1 := 12) (pc := 9) k_La_saidInAll_9 (by decide) (by decide) (by omega) (by omega) (fun hc => ?_) (fun hc => ?_) <;> first | (exfalso; omega) | skip)
        | refine T_icmp_ge_t (tgt := 40) (pc := 9) k_La_saidInAll_9 rfl (by decide) ?_
        | refine T_icmp_ge_f (tgt := 40) (pc1 := 12) (pc := 9) k_La_saidInAll_9 rfl rfl (by decide) ?_
        | refine T_icmp_ge (tgt := 40) (pc1 := 12) (pc := 9) k_La_saidInAll_9 rfl rfl (fun hc => ?_) (fun hc => ?_)
        | refine T_aload_n (pc1 := 14) (pc := 13) k_La_saidInAll_13 rfl rfl ?_
        | refine T_aload_nN (pc1 := 14) (pc := 13) k_La_saidInAll_13 rfl rfl ?_
        | refine T_getR (pc1 := 17) (pc := 14) k_La_saidInAll_14 rfl f_La_11 rfl (by first | assumption | exact ga G (by decide) rfl | exact lgA LG (by omega)) (by first | assumption | exact gr G (by decide) rfl | exact lgR LG (by omega)) ?_
        | refine T_iload_n (pc1 := 18) (pc := 17) k_La_saidInAll_17 rfl rfl ?_
        | refine T_aaldQ (e0 := 4) (pc1 := 19) (pc := 18) k_La_saidInAll_18 rfl (by first | assumption | exact ga G (by decide) rfl | exact lgA LG (by omega)) (by decide) (by omega) (by omega) (by first | assumption | exact gr G (by decide) rfl | exact lgR LG (by omega)) ?_
        | refine T_aaldQ (e0 := 0) (pc1 := 19) (pc := 18) k_La_saidInAll_18 rfl (by first | assumption | exact ga G (by decide) rfl | exact lgA LG (by omega)) (by decide) (by omega) (by omega) (by first | assumption | exact gr G (by decide) rfl | exact lgR LG (by omega)) ?_
        | refine T_aaldQ (e0 := 1) (pc1 := 19) (pc := 18) k_La_saidInAll_18 rfl (by first | assumption | exact ga G (by decide) rfl | exact lgA LG (by omega)) (by decide) (by omega) (by omega) (by first | assumption | exact gr G (by decide) rfl | exact lgR LG (by omega)) ?_
        | refine T_aaldQ (e0 := 2) (pc1 := 19) (pc := 18) k_La_saidInAll_18 rfl (by first | assumption | exact ga G (by decide) rfl | exact lgA LG (by omega)) (by decide) (by omega) (by omega) (by first | assumption | exact gr G (by decide) rfl | exact lgR LG (by omega)) ?_
        | refine T_aaldQ (e0 := 3) (pc1 := 19) (pc := 18) k_La_saidInAll_18 rfl (by first | assumption | exact ga G (by decide) rfl | exact lgA LG (by omega)) (by decide) (by omega) (by omega) (by first | assumption | exact gr G (by decide) rfl | exact lgR LG (by omega)) ?_
        | refine T_getV (pc1 := 22) (pc := 19) k_La_saidInAll_19 rfl f_La_116 rfl (by first | assumption | exact ga G (by decide) rfl | exact lgA LG (by omega)) (by first | assumption | (simp (disch := omega) only [pI_eq, pI_row, pI_col, va_up_self, va_up_ne, ne_eq, not_false_eq_true] <;> rfl) | rfl) ?_
        | refine T_ldc (v := (-1000000005)) (pc1 := 24) (pc := 22) k_La_saidInAll_22 rfl c_La_45 ?_
        | refine T_icmp_eq (tgt := 31) (pc1 := 27) (pc := 24) k_La_saidInAll_24 rfl rfl (fun hc => ?_) (fun hc => ?_)
        | refine T_goto (tgt := 32) (pc := 28) k_La_saidInAll_28 rfl ?_
        | refine T_istore_n (pc1 := 34) (pc := 33) k_La_saidInAll_33 rfl (Nat.le_of_ble_eq_true rfl) ?_
        | refine T_iincN (b := 1) (pc1 := 37) (pc := 34) k_La_saidInAll_34 rfl rfl (by decide) ?_
        | refine T_iinc (v := (nI 1)) (pc1 := 37) (pc := 34) k_La_saidInAll_34 rfl rfl (by decide) ?_
        | refine T_goto (tgt := 4) (pc := 37) k_La_saidInAll_37 rfl ?_)
      · rw [if_pos hc] at ih; exact ih
      · rw [if_neg hc] at ih; exact ih
  repeat' (first
    | (refine T_iconst (v := (nI 0)) (pc1 := 1) (pc := 0) k_La_saidInAll_0 rfl (by decide) ?_ <;> try (refine T_istore_n (pc1 := 2) (pc := 1) k_La_saidInAll_1 rfl (Nat.le_of_ble_eq_true rfl) ?_ <;> try (refine T_iconst (v := (nI 0)) (pc1 := 3) (pc := 2) k_La_saidInAll_2 rfl (by decide) ?_ <;> try (refine T_istore_n (pc1 := 4) (pc := 3) k_La_saidInAll_3 rfl (Nat.le_of_ble_eq_true rfl) ?_))))
    | refine T_istore_n (pc1 := 2) (pc := 1) k_La_saidInAll_1 rfl (Nat.le_of_ble_eq_true rfl) ?_
    | refine T_iconst (v := (nI 0)) (pc1 := 3) (pc := 2) k_La_saidInAll_2 rfl (by decide) ?_
    | refine T_istore_n (pc1 := 4) (pc := 3) k_La_saidInAll_3 rfl (Nat.le_of_ble_eq_true rfl) ?_)
  exact loop n 0 (by omega)
end C8
