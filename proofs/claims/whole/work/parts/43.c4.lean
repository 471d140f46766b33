/-! The class: least ways. -/
section PC2
theorem rnd_congr {e e' : Nat → Nat × Nat} {c c' : Nf} {f : Nf} : ∀ k, (∀ b, b < k → e b = e' b ∧ c b = c' b) → rnd e c f k = rnd e' c' f k
  | 0, _ => rfl
  | k + 1, h => by
    unfold rnd
    rw [rnd_congr k (fun b hb => h b (by omega)), (h k (by omega)).1, (h k (by omega)).2]
theorem rnds_congr {e e' : Nat → Nat × Nat} {c c' : Nf} {n : Nat} {f : Nf} (h : ∀ b, b < n → e b = e' b ∧ c b = c' b) : ∀ r, rnds e c n f r = rnds e' c' n f r
  | 0 => rfl
  | r + 1 => by
    unfold rnds
    rw [rnds_congr h r, rnd_congr n h]
theorem dst_congr {e e' : Nat → Nat × Nat} {c c' : Nf} {n goal : Nat} (h : ∀ b, b < n → e b = e' b ∧ c b = c' b) : dst e c n goal = dst e' c' n goal := rnds_congr h 8
theorem rx_same {f : Nf} {o t c : Nat} (h1 : f o ≤ f t + c) (h2 : f t ≤ f o + c) : rx f o t c = f := by
  unfold rx
  by_cases hc : c = 0
  · rw [if_pos hc]
  · rw [if_neg hc]
    have e1 : va_up f o (min (f o) (f t + c)) = f := by
      funext v
      by_cases hv : v = o
      · subst hv; rw [va_up_self]; omega
      · rw [va_up_ne _ _ hv]
    rw [e1]
    funext v
    by_cases hv : v = t
    · subst hv; rw [va_up_self]; omega
    · rw [va_up_ne _ _ hv]
theorem rnd_bd2 {e : Nat → Nat × Nat} {c : Nf} {n goal r : Nat} (he : okE e n) {k : Nat} (hk : k ≤ n) (v : Nat) : rnd e c (rnds e c n (ini goal) r) k v ≤ 1000000 := rnd_bd he hk v
theorem bcs_none {N : Row} {tn b : Nat} (hb : b < 14) : bcs N tn cNONE b = bcs N tn (-1) b := by
  unfold bcs
  have e1 : ¬ nI b = cNONE := fun q => by
    have := congrArg Int32.toInt q
    rw [nI_toInt (by omega)] at this
    have e : cNONE.toInt = -1000000005 := rfl
    omega
  have e2 : ¬ nI b = (-1 : Int32) := fun q => by
    have := congrArg Int32.toInt q
    rw [nI_toInt (by omega)] at this
    have e : (-1 : Int32).toInt = -1 := rfl
    omega
  simp [e1, e2]
end PC2
section C4
variable {g : Geo} {I : IM} {K : Option Value → Geo → IM → Prop}
theorem c_Ja_fill {i n : Nat} {v : Int32} (hA : isAg g i 100 n) (hn : n < 1000) (kk : ∀ J, eqx [i] I J → (∀ k, k < n → J i k = v) → K none g J) : Cl 1 M_Ja_fill [.ref i, .int v] g I K := by
  show Rl 1 M_Ja_fill 0 [some (.ref i), some (.int v), none, none] [] g I K
  have loop : ∀ q k (J : IM), k + q = n → eqx [i] I J → (∀ j, j < k → J i j = v) → Rl 1 M_Ja_fill 5 [some (.ref i), some (.int v), some (.int (nI k)), some (.int (nI n))] [] g J K := by
    intro q
    induction q with
    | zero =>
      intro k J hk hJ hv
      have hk : k = n := by omega
      subst hk
      repeat' (first
        | (refine T_iload_n (pc1 := 6) (pc := 5) k_Ja_fill_5 rfl rfl ?_ <;> try (refine T_iload_n (pc1 := 7) (pc := 6) k_Ja_fill_6 rfl rfl ?_ <;> try ((first | (with_reducible refine T_icmp_geN (tgt := 20) (pc1 := 10) (pc := 7) k_Ja_fill_7 (by decide) (by decide) (by omega) (by omega) (fun hc => ?_) (fun hc => ?_) <;> first | (exfalso; omega) | skip) | refine T_icmp_ge_t (tgt := 20) (pc := 7) k_Ja_fill_7 rfl (by decide) ?_ | refine T_icmp_ge_f (tgt := 20) (pc1 := 10) (pc := 7) k_Ja_fill_7 rfl rfl (by decide) ?_ | refine T_icmp_ge (tgt := 20) (pc1 := 10) (pc := 7) k_Ja_fill_7 rfl rfl (fun hc => ?_) (fun hc => ?_)))))
        | ((first | refine T_aload_n (pc1 := 11) (pc := 10) k_Ja_fill_10 rfl rfl ?_ | refine T_aload_nN (pc1 := 11) (pc := 10) k_Ja_fill_10 rfl rfl ?_) <;> try (refine T_iload_n (pc1 := 12) (pc := 11) k_Ja_fill_11 rfl rfl ?_ <;> try (refine T_iload_n (pc1 := 13) (pc := 12) k_Ja_fill_12 rfl rfl ?_ <;> try (refine T_iastN (pc1 := 14) (pc := 13) k_Ja_fill_13 rfl (by first | assumption | exact ga G (by decide) rfl | exact lgA LG (by omega)) (by omega) (by omega) ?_ <;> try ((first | refine T_iincN (b := 1) (pc1 := 17) (pc := 14) k_Ja_fill_14 rfl rfl (by decide) ?_ | refine T_iinc (v := (nI 1)) (pc1 := 17) (pc := 14) k_Ja_fill_14 rfl rfl (by decide) ?_) <;> try (refine T_goto (tgt := 5) (pc := 17) k_Ja_fill_17 rfl ?_))))))
        | (refine T_retV (pc := 20) k_Ja_fill_20 rfl ?_)
        | refine T_iload_n (pc1 := 7) (pc := 6) k_Ja_fill_6 rfl rfl ?_
        | (with_reducible refine T_icmp_geN (tgt := 20) (pc1 := 10) (pc := 7) k_Ja_fill_7 (by decide) (by decide) (by omega) (by omega) (fun hc => ?_) (fun hc => ?_) <;> first | (exfalso; omega) | skip)
        | refine T_icmp_ge_t (tgt := 20) (pc := 7) k_Ja_fill_7 rfl (by decide) ?_
        | refine T_icmp_ge_f (tgt := 20) (pc1 := 10) (pc := 7) k_Ja_fill_7 rfl rfl (by decide) ?_
        | refine T_icmp_ge (tgt := 20) (pc1 := 10) (pc := 7) k_Ja_fill_7 rfl rfl (fun hc => ?_) (fun hc => ?_)
        | refine T_iload_n (pc1 := 12) (pc := 11) k_Ja_fill_11 rfl rfl ?_
        | refine T_iload_n (pc1 := 13) (pc := 12) k_Ja_fill_12 rfl rfl ?_
        | refine T_iastN (pc1 := 14) (pc := 13) k_Ja_fill_13 rfl (by first | assumption | exact ga G (by decide) rfl | exact lgA LG (by omega)) (by omega) (by omega) ?_
        | refine T_iincN (b := 1) (pc1 := 17) (pc := 14) k_Ja_fill_14 rfl rfl (by decide) ?_
        | refine T_iinc (v := (nI 1)) (pc1 := 17) (pc := 14) k_Ja_fill_14 rfl rfl (by decide) ?_
        | refine T_goto (tgt := 5) (pc := 17) k_Ja_fill_17 rfl ?_)
      exact kk J hJ hv
    | succ q ih =>
      intro k J hk hJ hv
      refine T_iload_n (pc1 := 6) (pc := 5) k_Ja_fill_5 rfl rfl ?_
      repeat' (first
        | (refine T_iload_n (pc1 := 7) (pc := 6) k_Ja_fill_6 rfl rfl ?_ <;> try ((first | (with_reducible refine T_icmp_geN (tgt := 20) (pc1 := 10) (pc := 7) k_Ja_fill_7 (by decide) (by decide) (by omega) (by omega) (fun hc => ?_) (fun hc => ?_) <;> first | (exfalso; omega) | skip) | refine T_icmp_ge_t (tgt := 20) (pc := 7) k_Ja_fill_7 rfl (by decide) ?_ | refine T_icmp_ge_f (tgt := 20) (pc1 := 10) (pc := 7) k_Ja_fill_7 rfl rfl (by decide) ?_ | refine T_icmp_ge (tgt := 20) (pc1 := 10) (pc := 7) k_Ja_fill_7 rfl rfl (fun hc => ?_) (fun hc => ?_))))
        | ((first | refine T_aload_n (pc1 := 11) (pc := 10) k_Ja_fill_10 rfl rfl ?_ | refine T_aload_nN (pc1 := 11) (pc := 10) k_Ja_fill_10 rfl rfl ?_) <;> try (refine T_iload_n (pc1 := 12) (pc := 11) k_Ja_fill_11 rfl rfl ?_ <;> try (refine T_iload_n (pc1 := 13) (pc := 12) k_Ja_fill_12 rfl rfl ?_ <;> try (refine T_iastN (pc1 := 14) (pc := 13) k_Ja_fill_13 rfl (by first | assumption | exact ga G (by decide) rfl | exact lgA LG (by omega)) (by omega) (by omega) ?_ <;> try ((first | refine T_iincN (b := 1) (pc1 := 17) (pc := 14) k_Ja_fill_14 rfl rfl (by decide) ?_ | refine T_iinc (v := (nI 1)) (pc1 := 17) (pc := 14) k_Ja_fill_14 rfl rfl (by decide) ?_) <;> try (refine T_goto (tgt := 5) (pc := 17) k_Ja_fill_17 rfl ?_))))))
        | (with_reducible refine T_icmp_geN (tgt := 20) (pc1 := 10) (pc := 7) k_Ja_fill_7 (by decide) (by decide) (by omega) (by omega) (fun hc => ?_) (fun hc => ?_) <;> first | (exfalso; omega) | skip)
        | refine T_icmp_ge_t (tgt := 20) (pc := 7) k_Ja_fill_7 rfl (by decide) ?_
        | refine T_icmp_ge_f (tgt := 20) (pc1 := 10) (pc := 7) k_Ja_fill_7 rfl rfl (by decide) ?_
        | refine T_icmp_ge (tgt := 20) (pc1 := 10) (pc := 7) k_Ja_fill_7 rfl rfl (fun hc => ?_) (fun hc => ?_)
        | refine T_iload_n (pc1 := 12) (pc := 11) k_Ja_fill_11 rfl rfl ?_
        | refine T_iload_n (pc1 := 13) (pc := 12) k_Ja_fill_12 rfl rfl ?_
        | refine T_iastN (pc1 := 14) (pc := 13) k_Ja_fill_13 rfl (by first | assumption | exact ga G (by decide) rfl | exact lgA LG (by omega)) (by omega) (by omega) ?_
        | refine T_iincN (b := 1) (pc1 := 17) (pc := 14) k_Ja_fill_14 rfl rfl (by decide) ?_
        | refine T_iinc (v := (nI 1)) (pc1 := 17) (pc := 14) k_Ja_fill_14 rfl rfl (by decide) ?_
        | refine T_goto (tgt := 5) (pc := 17) k_Ja_fill_17 rfl ?_)
      refine ih (k + 1) _ (by omega) (eqx_pI hJ _ (by simp)) (fun j hj => ?_)
      by_cases h : j = k
      · subst h; exact pI_eq
      · rw [pI_col h]; exact hv j (by omega)
  repeat' (first
    | (refine T_iconst (v := (nI 0)) (pc1 := 1) (pc := 0) k_Ja_fill_0 rfl (by decide) ?_ <;> try (refine T_istore_n (pc1 := 2) (pc := 1) k_Ja_fill_1 rfl (Nat.le_of_ble_eq_true rfl) ?_ <;> try ((first | refine T_aload_n (pc1 := 3) (pc := 2) k_Ja_fill_2 rfl rfl ?_ | refine T_aload_nN (pc1 := 3) (pc := 2) k_Ja_fill_2 rfl rfl ?_) <;> try ((first | refine T_alenN (pc1 := 4) (pc := 3) k_Ja_fill_3 rfl (by first | assumption | exact ga G (by decide) rfl | exact lgA LG (by omega)) ?_ | refine T_sclen (pc1 := 4) (pc := 3) k_Ja_fill_3 rfl ?_) <;> try (refine T_istore_n (pc1 := 5) (pc := 4) k_Ja_fill_4 rfl (Nat.le_of_ble_eq_true rfl) ?_)))))
    | refine T_istore_n (pc1 := 2) (pc := 1) k_Ja_fill_1 rfl (Nat.le_of_ble_eq_true rfl) ?_
    | refine T_aload_n (pc1 := 3) (pc := 2) k_Ja_fill_2 rfl rfl ?_
    | refine T_aload_nN (pc1 := 3) (pc := 2) k_Ja_fill_2 rfl rfl ?_
    | refine T_alenN (pc1 := 4) (pc := 3) k_Ja_fill_3 rfl (by first | assumption | exact ga G (by decide) rfl | exact lgA LG (by omega)) ?_
    | refine T_sclen (pc1 := 4) (pc := 3) k_Ja_fill_3 rfl ?_
    | refine T_istore_n (pc1 := 5) (pc := 4) k_Ja_fill_4 rfl (Nat.le_of_ble_eq_true rfl) ?_)
  exact loop n 0 I (by omega) eqx_rf (fun j hj => absurd hj (Nat.not_lt_zero _))
theorem c_Wr_shortens {f : Nf} {u v c : Nat} (G : GeoOK g) (hu : u < 8) (hv : v < 8) (hf : ∀ j, j < 8 → I 65 j = nI (f j)) (hfb : ∀ j, j < 8 → f j ≤ 1000000) (hc : c ≤ 1998) (k0 : f v ≤ f u + c → K (some (.int (nI 0))) g I) (k1 : f u + c < f v → K (some (.int (nI 1))) g (pI I 65 v (nI (f u + c)))) : Cl 1 M_Wr_shortens [.ref 63, .int (nI u), .int (nI v), .int (nI c)] g I K := by
  show Rl 1 M_Wr_shortens 0 [some (.ref 63), some (.int (nI u)), some (.int (nI v)), some (.int (nI c)), none] [] g I K
  have e1 := hf u hu
  have e2 := hf v hv
  have b1 := hfb u hu
  have b2 := hfb v hv
  repeat' (first
    | ((first | refine T_aload_n (pc1 := 1) (pc := 0) k_Wr_shortens_0 rfl rfl ?_ | refine T_aload_nN (pc1 := 1) (pc := 0) k_Wr_shortens_0 rfl rfl ?_) <;> try (refine T_getR (pc1 := 4) (pc := 1) k_Wr_shortens_1 rfl f_Wr_15 rfl (by first | assumption | exact ga G (by decide) rfl | exact lgA LG (by omega)) (by first | assumption | exact gr G (by decide) rfl | exact lgR LG (by omega)) ?_ <;> try (refine T_iload_n (pc1 := 5) (pc := 4) k_Wr_shortens_4 rfl rfl ?_ <;> try ((first | refine T_ialdN (pc1 := 6) (pc := 5) k_Wr_shortens_5 rfl (by first | assumption | exact ga G (by decide) rfl | exact lgA LG (by omega)) (by omega) (by omega) (by first | assumption | (simp (disch := omega) only [pI_eq, pI_row, pI_col, va_up_self, va_up_ne, ne_eq, not_false_eq_true] <;> rfl) | rfl) ?_ | refine T_iald (pc1 := 6) (pc := 5) k_Wr_shortens_5 rfl (by first | assumption | exact ga G (by decide) rfl | exact lgA LG (by omega)) (by assumption) ?_) <;> try (refine T_iload_n (pc1 := 7) (pc := 6) k_Wr_shortens_6 rfl rfl ?_ <;> try ((first | with_reducible refine T_iaddN (pc1 := 8) (pc := 7) k_Wr_shortens_7 (by decide) ?_ | refine T_iadd (pc1 := 8) (pc := 7) k_Wr_shortens_7 rfl ?_) <;> try (refine T_istore (pc1 := 10) (pc := 8) k_Wr_shortens_8 rfl (Nat.le_of_ble_eq_true rfl) ?_ <;> try (refine T_iload (pc1 := 12) (pc := 10) k_Wr_shortens_10 rfl rfl ?_ <;> try ((first | refine T_aload_n (pc1 := 13) (pc := 12) k_Wr_shortens_12 rfl rfl ?_ | refine T_aload_nN (pc1 := 13) (pc := 12) k_Wr_shortens_12 rfl rfl ?_) <;> try (refine T_getR (pc1 := 16) (pc := 13) k_Wr_shortens_13 rfl f_Wr_15 rfl (by first | assumption | exact ga G (by decide) rfl | exact lgA LG (by omega)) (by first | assumption | exact gr G (by decide) rfl | exact lgR LG (by omega)) ?_ <;> try (refine T_iload_n (pc1 := 17) (pc := 16) k_Wr_shortens_16 rfl rfl ?_ <;> try ((first | refine T_ialdN (pc1 := 18) (pc := 17) k_Wr_shortens_17 rfl (by first | assumption | exact ga G (by decide) rfl | exact lgA LG (by omega)) (by omega) (by omega) (by first | assumption | (simp (disch := omega) only [pI_eq, pI_row, pI_col, va_up_self, va_up_ne, ne_eq, not_false_eq_true] <;> rfl) | rfl) ?_ | refine T_iald (pc1 := 18) (pc := 17) k_Wr_shortens_17 rfl (by first | assumption | exact ga G (by decide) rfl | exact lgA LG (by omega)) (by assumption) ?_) <;> try ((first | (with_reducible refine T_icmp_ltN (tgt := 23) (pc1 := 21) (pc := 18) k_Wr_shortens_18 (by decide) (by decide) (by omega) (by omega) (fun hc => ?_) (fun hc => ?_) <;> first | (exfalso; omega) | skip) | refine T_icmp_lt_t (tgt := 23) (pc := 18) k_Wr_shortens_18 rfl (by decide) ?_ | refine T_icmp_lt_f (tgt := 23) (pc1 := 21) (pc := 18) k_Wr_shortens_18 rfl rfl (by decide) ?_ | refine T_icmp_lt (tgt := 23) (pc1 := 21) (pc := 18) k_Wr_shortens_18 rfl rfl (fun hc => ?_) (fun hc => ?_)))))))))))))))
    | (refine T_iconst (v := (nI 0)) (pc1 := 22) (pc := 21) k_Wr_shortens_21 rfl (by decide) ?_ <;> try (refine T_retI (pc := 22) k_Wr_shortens_22 rfl (by first | rfl | decide | assumption) ?_))
    | ((first | refine T_aload_n (pc1 := 24) (pc := 23) k_Wr_shortens_23 rfl rfl ?_ | refine T_aload_nN (pc1 := 24) (pc := 23) k_Wr_shortens_23 rfl rfl ?_) <;> try (refine T_getR (pc1 := 27) (pc := 24) k_Wr_shortens_24 rfl f_Wr_15 rfl (by first | assumption | exact ga G (by decide) rfl | exact lgA LG (by omega)) (by first | assumption | exact gr G (by decide) rfl | exact lgR LG (by omega)) ?_ <;> try (refine T_iload_n (pc1 := 28) (pc := 27) k_Wr_shortens_27 rfl rfl ?_ <;> try (refine T_iload (pc1 := 30) (pc := 28) k_Wr_shortens_28 rfl rfl ?_ <;> try (refine T_iastN (pc1 := 31) (pc := 30) k_Wr_shortens_30 rfl (by first | assumption | exact ga G (by decide) rfl | exact lgA LG (by omega)) (by omega) (by omega) ?_ <;> try (refine T_iconst (v := (nI 1)) (pc1 := 32) (pc := 31) k_Wr_shortens_31 rfl (by decide) ?_ <;> try (refine T_retI (pc := 32) k_Wr_shortens_32 rfl (by first | rfl | decide | assumption) ?_)))))))
    | refine T_getR (pc1 := 4) (pc := 1) k_Wr_shortens_1 rfl f_Wr_15 rfl (by first | assumption | exact ga G (by decide) rfl | exact lgA LG (by omega)) (by first | assumption | exact gr G (by decide) rfl | exact lgR LG (by omega)) ?_
    | refine T_iload_n (pc1 := 5) (pc := 4) k_Wr_shortens_4 rfl rfl ?_
    | refine T_ialdN (pc1 := 6) (pc := 5) k_Wr_shortens_5 rfl (by first | assumption | exact ga G (by decide) rfl | exact lgA LG (by omega)) (by omega) (by omega) (by first | assumption | (simp (disch := omega) only [pI_eq, pI_row, pI_col, va_up_self, va_up_ne, ne_eq, not_false_eq_true] <;> rfl) | rfl) ?_
    | refine T_iald (pc1 := 6) (pc := 5) k_Wr_shortens_5 rfl (by first | assumption | exact ga G (by decide) rfl | exact lgA LG (by omega)) (by assumption) ?_
    | refine T_iload_n (pc1 := 7) (pc := 6) k_Wr_shortens_6 rfl rfl ?_
    | with_reducible refine T_iaddN (pc1 := 8) (pc := 7) k_Wr_shortens_7 (by decide) ?_
    | refine T_iadd (pc1 := 8) (pc := 7) k_Wr_shortens_7 rfl ?_
    | refine T_istore (pc1 := 10) (pc := 8) k_Wr_shortens_8 rfl (Nat.le_of_ble_eq_true rfl) ?_
    | refine T_iload (pc1 := 12) (pc := 10) k_Wr_shortens_10 rfl rfl ?_
    | refine T_aload_n (pc1 := 13) (pc := 12) k_Wr_shortens_12 rfl rfl ?_
    | refine T_aload_nN (pc1 := 13) (pc := 12) k_Wr_shortens_12 rfl rfl ?_
    | refine T_getR (pc1 := 16) (pc := 13) k_Wr_shortens_13 rfl f_Wr_15 rfl (by first | assumption | exact ga G (by decide) rfl | exact lgA LG (by omega)) (by first | assumption | exact gr G (by decide) rfl | exact lgR LG (by omega)) ?_
    | refine T_iload_n (pc1 := 17) (pc := 16) k_Wr_shortens_16 rfl rfl ?_
    | refine T_ialdN (pc1 := 18) (pc := 17) k_Wr_shortens_17 rfl (by first | assumption | exact ga G (by decide) rfl | exact lgA LG (by omega)) (by omega) (by omega) (by first | assumption | (simp (disch := omega) only [pI_eq, pI_row, pI_col, va_up_self, va_up_ne, ne_eq, not_false_eq_true] <;> rfl) | rfl) ?_
    | refine T_iald (pc1 := 18) (pc := 17) k_Wr_shortens_17 rfl (by first | assumption | exact ga G (by decide) rfl | exact lgA LG (by omega)) (by assumption) ?_
    | (with_reducible refine T_icmp_ltN (tgt := 23) (pc1 := 21) (pc := 18) k_Wr_shortens_18 (by decide) (by decide) (by omega) (by omega) (fun hc => ?_) (fun hc => ?_) <;> first | (exfalso; omega) | skip)
    | refine T_icmp_lt_t (tgt := 23) (pc := 18) k_Wr_shortens_18 rfl (by decide) ?_
    | refine T_icmp_lt_f (tgt := 23) (pc1 := 21) (pc := 18) k_Wr_shortens_18 rfl rfl (by decide) ?_
    | refine T_icmp_lt (tgt := 23) (pc1 := 21) (pc := 18) k_Wr_shortens_18 rfl rfl (fun hc => ?_) (fun hc => ?_)
    | refine T_retI (pc := 22) k_Wr_shortens_22 rfl (by first | rfl | decide | assumption) ?_
    | refine T_getR (pc1 := 27) (pc := 24) k_Wr_shortens_24 rfl f_Wr_15 rfl (by first | assumption | exact ga G (by decide) rfl | exact lgA LG (by omega)) (by first | assumption | exact gr G (by decide) rfl | exact lgR LG (by omega)) ?_
    | refine T_iload_n (pc1 := 28) (pc := 27) k_Wr_shortens_27 rfl rfl ?_
    | refine T_iload (pc1 := 30) (pc := 28) k_Wr_shortens_28 rfl rfl ?_
    | refine T_iastN (pc1 := 31) (pc := 30) k_Wr_shortens_30 rfl (by first | assumption | exact ga G (by decide) rfl | exact lgA LG (by omega)) (by omega) (by omega) ?_
    | refine T_iconst (v := (nI 1)) (pc1 := 32) (pc := 31) k_Wr_shortens_31 rfl (by decide) ?_
    | refine T_retI (pc := 32) k_Wr_shortens_32 rfl (by first | rfl | decide | assumption) ?_)
  all_goals first | exact k0 (by omega) | exact k1 (by omega)
set_option maxHeartbeats 4000000 in
theorem c_Wr_measure {a n tn goal : Nat} {N : Row} {c : Nf} (G : GeoOK g) (LG : LandG g a) (ok : okL N n tn) (LB : LBt I a N n) (hg : goal < 8) (hC : ∀ b, b < n → I 64 b = nI (c b)) (hcb : ∀ b, b < n → c b ≤ 1998) (kk : ∀ J, eqx [65] I J → (∀ v, v < 8 → J 65 v = nI (dst (ed N) c n goal v)) → K none g J) : Cl 2 M_Wr_measure [.ref 63, .ref a, .int (nI goal)] g I K := by
  show Rl 2 M_Wr_measure 0 [some (.ref 63), some (.ref a), some (.int (nI goal)), none, none, none, none] [] g I K
  obtain ⟨h5, h14, -⟩ := id ok
  obtain ⟨g1, g2, g3, g4, g5, g6, g7, g8, g9, g10, g11, g12, g13, g14⟩ := id LG
  obtain ⟨b1, b2, b3, b4⟩ := id LB
  have he := okL_E ok
  have hes := okE_sw he
  have ha65 : a ≠ 65 := by omega
  have fin : ∀ (J : IM) o3 o4 o5 o6 (f : Nf), eqx [65] I J → (∀ v, v < 8 → J 65 v = nI (f v)) → (∀ v, v < 8 → f v = dst (swp (ed N)) c n goal v) → Rl 2 M_Wr_measure 125 [some (.ref 63), some (.ref a), some (.int (nI goal)), o3, o4, o5, o6] [] g J K := by
    intro J o3 o4 o5 o6 f hJ hv hd
    repeat' (first
      | (refine T_retV (pc := 125) k_Wr_measure_125 rfl ?_))
    exact kk J hJ (fun v hv8 => by rw [hv v hv8, hd v hv8, dst_sw he hv8])
  have inner : ∀ q b r sh o6 (f0 : Nf) (J : IM), b + q = n → f0 = rnds (swp (ed N)) c n (ini goal) r → r ≤ 8 → sh ≤ 1 → (sh = 0 → rnd (swp (ed N)) c f0 b = f0) → eqx [65] I J → (∀ v, v < 8 → J 65 v = nI (rnd (swp (ed N)) c f0 b v)) →
      (∀ sh o6 (J : IM), sh ≤ 1 → (sh = 0 → rnd (swp (ed N)) c f0 n = f0) → eqx [65] I J → (∀ v, v < 8 → J 65 v = nI (rnd (swp (ed N)) c f0 n v)) → Rl 2 M_Wr_measure 119 [some (.ref 63), some (.ref a), some (.int (nI goal)), some (.int (nI sh)), some (.int (nI r)), some (.int (nI n)), o6] [] g J K) →
      Rl 2 M_Wr_measure 37 [some (.ref 63), some (.ref a), some (.int (nI goal)), some (.int (nI sh)), some (.int (nI r)), some (.int (nI b)), o6] [] g J K := by
    intro q
    induction q with
    | zero =>
      intro b r sh o6 f0 J hb hf0 hr hsh hsame hJ hv kx
      have hb : b = n := by omega
      subst hb
      have c1 : J a 1 = nI b := by rw [hJ a (by simp; omega)]; exact b1
      repeat' (first
        | (refine T_iload (pc1 := 39) (pc := 37) k_Wr_measure_37 rfl rfl ?_ <;> try ((first | refine T_aload_n (pc1 := 40) (pc := 39) k_Wr_measure_39 rfl rfl ?_ | refine T_aload_nN (pc1 := 40) (pc := 39) k_Wr_measure_39 rfl rfl ?_) <;> try (refine T_getV (pc1 := 43) (pc := 40) k_Wr_measure_40 rfl f_Wr_107 rfl (by first | assumption | exact ga G (by decide) rfl | exact lgA LG (by omega)) (by first | assumption | (simp (disch := omega) only [pI_eq, pI_row, pI_col, va_up_self, va_up_ne, ne_eq, not_false_eq_true] <;> rfl) | rfl) ?_ <;> try ((first | (with_reducible refine T_icmp_geN (tgt := 119) (pc1 := 46) (pc := 43) k_Wr_measure_43 (by decide) (by decide) (by omega) (by omega) (fun hc => ?_) (fun hc => ?_) <;> first | (exfalso; omega) | skip) | refine T_icmp_ge_t (tgt := 119) (pc := 43) k_Wr_measure_43 rfl (by decide) ?_ | refine T_icmp_ge_f (tgt := 119) (pc1 := 46) (pc := 43) k_Wr_measure_43 rfl rfl (by decide) ?_ | refine T_icmp_ge (tgt := 119) (pc1 := 46) (pc := 43) k_Wr_measure_43 rfl rfl (fun hc => ?_) (fun hc => ?_))))))
        | refine T_aload_n (pc1 := 40) (pc := 39) k_Wr_measure_39 rfl rfl ?_
        | refine T_aload_nN (pc1 := 40) (pc := 39) k_Wr_measure_39 rfl rfl ?_
        | refine T_getV (pc1 := 43) (pc := 40) k_Wr_measure_40 rfl f_Wr_107 rfl (by first | assumption | exact ga G (by decide) rfl | exact lgA LG (by omega)) (by first | assumption | (simp (disch := omega) only [pI_eq, pI_row, pI_col, va_up_self, va_up_ne, ne_eq, not_false_eq_true] <;> rfl) | rfl) ?_
        | (with_reducible refine T_icmp_geN (tgt := 119) (pc1 := 46) (pc := 43) k_Wr_measure_43 (by decide) (by decide) (by omega) (by omega) (fun hc => ?_) (fun hc => ?_) <;> first | (exfalso; omega) | skip)
        | refine T_icmp_ge_t (tgt := 119) (pc := 43) k_Wr_measure_43 rfl (by decide) ?_
        | refine T_icmp_ge_f (tgt := 119) (pc1 := 46) (pc := 43) k_Wr_measure_43 rfl rfl (by decide) ?_
        | refine T_icmp_ge (tgt := 119) (pc1 := 46) (pc := 43) k_Wr_measure_43 rfl rfl (fun hc => ?_) (fun hc => ?_))
      exact kx sh _ J hsh hsame hJ hv
    | succ q ih =>
      intro b r sh o6 f0 J hb hf0 hr hsh hsame hJ hv kx
      have hbn : b < n := by omega
      have c1 : J a 1 = nI n := by rw [hJ a (by simp; omega)]; exact b1
      have c64 : J 64 b = nI (c b) := by rw [hJ 64 (by decide)]; exact hC b hbn
      have hcl := hcb b hbn
      have gb := lgA LG (show b < 14 by omega)
      obtain ⟨k, o, t, l, rr, -, -, h1, ho, h2, ht, hne, -⟩ := ok.2.2.2.2.1 b hbn
      have e1 : (ed N b).1 = o := by unfold ed; rw [h1]; exact nI_clamp (by omega)
      have e2 : (ed N b).2 = t := by unfold ed; rw [h2]; exact nI_clamp (by omega)
      have hbd : ∀ v, rnd (swp (ed N)) c f0 b v ≤ 1000000 := fun v => by rw [hf0]; exact rnd_bd hes (by omega) v
      have ih := ih (b + 1) r
      have es : swp (ed N) b = (t, o) := by unfold swp; rw [e1, e2]
      have er : rnd (swp (ed N)) c f0 (b + 1) = rx (rnd (swp (ed N)) c f0 b) t o (c b) := by rw [rnd, es]
      have ih := fun sh o6 J x1 x2 x3 x4 x5 x6 => ih sh o6 f0 J x1 hf0 hr x2 x3 x4 x5 x6
      rw [er] at ih
      generalize hfb : rnd (swp (ed N)) c f0 b = f at *
      have d1 : ∀ v : Int32, ∀ x y : Nat, pI J 65 x v (a + 6 + b) y = J (a + 6 + b) y := fun v x y => pI_row (by omega)
      have f1 : J (a + 6 + b) 1 = nI o := by rw [hJ _ (by simp; omega)]; exact (b4 b hbn 1 (by decide)).trans h1
      have f2 : J (a + 6 + b) 2 = nI t := by rw [hJ _ (by simp; omega)]; exact (b4 b hbn 2 (by decide)).trans h2
      refine T_iload (pc1 := 39) (pc := 37) k_Wr_measure_37 rfl rfl ?_
      repeat' (first
        | ((first | refine T_aload_n (pc1 := 40) (pc := 39) k_Wr_measure_39 rfl rfl ?_ | refine T_aload_nN (pc1 := 40) (pc := 39) k_Wr_measure_39 rfl rfl ?_) <;> try (refine T_getV (pc1 := 43) (pc := 40) k_Wr_measure_40 rfl f_Wr_107 rfl (by first | assumption | exact ga G (by decide) rfl | exact lgA LG (by omega)) (by first | assumption | (simp (disch := omega) only [pI_eq, pI_row, pI_col, va_up_self, va_up_ne, ne_eq, not_false_eq_true] <;> rfl) | rfl) ?_ <;> try ((first | (with_reducible refine T_icmp_geN (tgt := 119) (pc1 := 46) (pc := 43) k_Wr_measure_43 (by decide) (by decide) (by omega) (by omega) (fun hc => ?_) (fun hc => ?_) <;> first | (exfalso; omega) | skip) | refine T_icmp_ge_t (tgt := 119) (pc := 43) k_Wr_measure_43 rfl (by decide) ?_ | refine T_icmp_ge_f (tgt := 119) (pc1 := 46) (pc := 43) k_Wr_measure_43 rfl rfl (by decide) ?_ | refine T_icmp_ge (tgt := 119) (pc1 := 46) (pc := 43) k_Wr_measure_43 rfl rfl (fun hc => ?_) (fun hc => ?_)))))
        | ((first | refine T_aload_n (pc1 := 47) (pc := 46) k_Wr_measure_46 rfl rfl ?_ | refine T_aload_nN (pc1 := 47) (pc := 46) k_Wr_measure_46 rfl rfl ?_) <;> try (refine T_getR (pc1 := 50) (pc := 47) k_Wr_measure_47 rfl f_Wr_9 rfl (by first | assumption | exact ga G (by decide) rfl | exact lgA LG (by omega)) (by first | assumption | exact gr G (by decide) rfl | exact lgR LG (by omega)) ?_ <;> try (refine T_iload (pc1 := 52) (pc := 50) k_Wr_measure_50 rfl rfl ?_ <;> try ((first | refine T_ialdN (pc1 := 53) (pc := 52) k_Wr_measure_52 rfl (by first | assumption | exact ga G (by decide) rfl | exact lgA LG (by omega)) (by omega) (by omega) (by first | assumption | (simp (disch := omega) only [pI_eq, pI_row, pI_col, va_up_self, va_up_ne, ne_eq, not_false_eq_true] <;> rfl) | rfl) ?_ | refine T_iald (pc1 := 53) (pc := 52) k_Wr_measure_52 rfl (by first | assumption | exact ga G (by decide) rfl | exact lgA LG (by omega)) (by assumption) ?_) <;> try ((first | (with_reducible refine T_if_eqN (tgt := 113) (pc1 := 56) (pc := 53) k_Wr_measure_53 (by decide) (by decide) (by omega) (fun hc => ?_) (fun hc => ?_) <;> first | (exfalso; omega) | skip) | refine T_if_eq_t (tgt := 113) (pc := 53) k_Wr_measure_53 rfl (by decide) ?_ | refine T_if_eq_f (tgt := 113) (pc1 := 56) (pc := 53) k_Wr_measure_53 rfl rfl (by decide) ?_ | refine T_if_eq (tgt := 113) (pc1 := 56) (pc := 53) k_Wr_measure_53 rfl rfl (fun hc => ?_) (fun hc => ?_)))))))
        | refine T_getV (pc1 := 43) (pc := 40) k_Wr_measure_40 rfl f_Wr_107 rfl (by first | assumption | exact ga G (by decide) rfl | exact lgA LG (by omega)) (by first | assumption | (simp (disch := omega) only [pI_eq, pI_row, pI_col, va_up_self, va_up_ne, ne_eq, not_false_eq_true] <;> rfl) | rfl) ?_
        | (with_reducible refine T_icmp_geN (tgt := 119) (pc1 := 46) (pc := 43) k_Wr_measure_43 (by decide) (by decide) (by omega) (by omega) (fun hc => ?_) (fun hc => ?_) <;> first | (exfalso; omega) | skip)
        | refine T_icmp_ge_t (tgt := 119) (pc := 43) k_Wr_measure_43 rfl (by decide) ?_
        | refine T_icmp_ge_f (tgt := 119) (pc1 := 46) (pc := 43) k_Wr_measure_43 rfl rfl (by decide) ?_
        | refine T_icmp_ge (tgt := 119) (pc1 := 46) (pc := 43) k_Wr_measure_43 rfl rfl (fun hc => ?_) (fun hc => ?_)
        | refine T_getR (pc1 := 50) (pc := 47) k_Wr_measure_47 rfl f_Wr_9 rfl (by first | assumption | exact ga G (by decide) rfl | exact lgA LG (by omega)) (by first | assumption | exact gr G (by decide) rfl | exact lgR LG (by omega)) ?_
        | refine T_iload (pc1 := 52) (pc := 50) k_Wr_measure_50 rfl rfl ?_
        | refine T_ialdN (pc1 := 53) (pc := 52) k_Wr_measure_52 rfl (by first | assumption | exact ga G (by decide) rfl | exact lgA LG (by omega)) (by omega) (by omega) (by first | assumption | (simp (disch := omega) only [pI_eq, pI_row, pI_col, va_up_self, va_up_ne, ne_eq, not_false_eq_true] <;> rfl) | rfl) ?_
        | refine T_iald (pc1 := 53) (pc := 52) k_Wr_measure_52 rfl (by first | assumption | exact ga G (by decide) rfl | exact lgA LG (by omega)) (by assumption) ?_
        | (with_reducible refine T_if_eqN (tgt := 113) (pc1 := 56) (pc := 53) k_Wr_measure_53 (by decide) (by decide) (by omega) (fun hc => ?_) (fun hc => ?_) <;> first | (exfalso; omega) | skip)
        | refine T_if_eq_t (tgt := 113) (pc := 53) k_Wr_measure_53 rfl (by decide) ?_
        | refine T_if_eq_f (tgt := 113) (pc1 := 56) (pc := 53) k_Wr_measure_53 rfl rfl (by decide) ?_
        | refine T_if_eq (tgt := 113) (pc1 := 56) (pc := 53) k_Wr_measure_53 rfl rfl (fun hc => ?_) (fun hc => ?_))
      all_goals try (exfalso; omega)
      · have hc0 : c b = 0 := by omega
        rw [rx, if_pos hc0] at ih
        repeat' (first
          | ((first | refine T_iincN (b := 1) (pc1 := 116) (pc := 113) k_Wr_measure_113 rfl rfl (by decide) ?_ | refine T_iinc (v := (nI 1)) (pc1 := 116) (pc := 113) k_Wr_measure_113 rfl rfl (by decide) ?_) <;> try (refine T_goto (tgt := 37) (pc := 116) k_Wr_measure_116 rfl ?_))
          | refine T_goto (tgt := 37) (pc := 116) k_Wr_measure_116 rfl ?_)
        exact ih sh _ J (by omega) hsh hsame hJ hv kx
      · have hc0 : c b ≠ 0 := by omega
        repeat' (first
          | ((first | refine T_aload_n (pc1 := 57) (pc := 56) k_Wr_measure_56 rfl rfl ?_ | refine T_aload_nN (pc1 := 57) (pc := 56) k_Wr_measure_56 rfl rfl ?_) <;> try (refine T_getR (pc1 := 60) (pc := 57) k_Wr_measure_57 rfl f_Wr_66 rfl (by first | assumption | exact ga G (by decide) rfl | exact lgA LG (by omega)) (by first | assumption | exact gr G (by decide) rfl | exact lgR LG (by omega)) ?_ <;> try (refine T_iload (pc1 := 62) (pc := 60) k_Wr_measure_60 rfl rfl ?_ <;> try ((first | refine T_aaldQ (e0 := 4) (pc1 := 63) (pc := 62) k_Wr_measure_62 rfl (by first | assumption | exact ga G (by decide) rfl | exact lgA LG (by omega)) (by decide) (by omega) (by omega) (by first | assumption | exact gr G (by decide) rfl | exact lgR LG (by omega)) ?_ | refine T_aaldQ (e0 := 0) (pc1 := 63) (pc := 62) k_Wr_measure_62 rfl (by first | assumption | exact ga G (by decide) rfl | exact lgA LG (by omega)) (by decide) (by omega) (by omega) (by first | assumption | exact gr G (by decide) rfl | exact lgR LG (by omega)) ?_ | refine T_aaldQ (e0 := 1) (pc1 := 63) (pc := 62) k_Wr_measure_62 rfl (by first | assumption | exact ga G (by decide) rfl | exact lgA LG (by omega)) (by decide) (by omega) (by omega) (by first | assumption | exact gr G (by decide) rfl | exact lgR LG (by omega)) ?_ | refine T_aaldQ (e0 := 2) (pc1 := 63) (pc := 62) k_Wr_measure_62 rfl (by first | assumption | exact ga G (by decide) rfl | exact lgA LG (by omega)) (by decide) (by omega) (by omega) (by first | assumption | exact gr G (by decide) rfl | exact lgR LG (by omega)) ?_ | refine T_aaldQ (e0 := 3) (pc1 := 63) (pc := 62) k_Wr_measure_62 rfl (by first | assumption | exact ga G (by decide) rfl | exact lgA LG (by omega)) (by decide) (by omega) (by omega) (by first | assumption | exact gr G (by decide) rfl | exact lgR LG (by omega)) ?_) <;> try ((first | refine T_astore (pc1 := 65) (pc := 63) k_Wr_measure_63 rfl (Nat.le_of_ble_eq_true rfl) ?_ | refine T_astoreN (pc1 := 65) (pc := 63) k_Wr_measure_63 rfl (Nat.le_of_ble_eq_true rfl) ?_) <;> try (refine T_iload_n (pc1 := 66) (pc := 65) k_Wr_measure_65 rfl rfl ?_ <;> try ((first | refine T_aload_n (pc1 := 67) (pc := 66) k_Wr_measure_66 rfl rfl ?_ | refine T_aload_nN (pc1 := 67) (pc := 66) k_Wr_measure_66 rfl rfl ?_) <;> try ((first | refine T_aload (pc1 := 69) (pc := 67) k_Wr_measure_67 rfl rfl ?_ | refine T_aloadN (pc1 := 69) (pc := 67) k_Wr_measure_67 rfl rfl ?_) <;> try (refine T_getV (pc1 := 72) (pc := 69) k_Wr_measure_69 rfl f_Wr_122 rfl (by first | assumption | exact ga G (by decide) rfl | exact lgA LG (by omega)) (by first | assumption | (simp (disch := omega) only [pI_eq, pI_row, pI_col, va_up_self, va_up_ne, ne_eq, not_false_eq_true] <;> rfl) | rfl) ?_ <;> try ((first | refine T_aload (pc1 := 74) (pc := 72) k_Wr_measure_72 rfl rfl ?_ | refine T_aloadN (pc1 := 74) (pc := 72) k_Wr_measure_72 rfl rfl ?_) <;> try (refine T_getV (pc1 := 77) (pc := 74) k_Wr_measure_74 rfl f_Wr_125 rfl (by first | assumption | exact ga G (by decide) rfl | exact lgA LG (by omega)) (by first | assumption | (simp (disch := omega) only [pI_eq, pI_row, pI_col, va_up_self, va_up_ne, ne_eq, not_false_eq_true] <;> rfl) | rfl) ?_ <;> try ((first | refine T_aload_n (pc1 := 78) (pc := 77) k_Wr_measure_77 rfl rfl ?_ | refine T_aload_nN (pc1 := 78) (pc := 77) k_Wr_measure_77 rfl rfl ?_) <;> try (refine T_getR (pc1 := 81) (pc := 78) k_Wr_measure_78 rfl f_Wr_9 rfl (by first | assumption | exact ga G (by decide) rfl | exact lgA LG (by omega)) (by first | assumption | exact gr G (by decide) rfl | exact lgR LG (by omega)) ?_ <;> try (refine T_iload (pc1 := 83) (pc := 81) k_Wr_measure_81 rfl rfl ?_))))))))))))))
          | ((first | refine T_ialdN (pc1 := 84) (pc := 83) k_Wr_measure_83 rfl (by first | assumption | exact ga G (by decide) rfl | exact lgA LG (by omega)) (by omega) (by omega) (by first | assumption | (simp (disch := omega) only [pI_eq, pI_row, pI_col, va_up_self, va_up_ne, ne_eq, not_false_eq_true] <;> rfl) | rfl) ?_ | refine T_iald (pc1 := 84) (pc := 83) k_Wr_measure_83 rfl (by first | assumption | exact ga G (by decide) rfl | exact lgA LG (by omega)) (by assumption) ?_) <;> try ((refine T_cV (As := [_, _, _]) (d1 := 1) (pc1 := 87) (pc := 84) k_Wr_measure_84 rfl (by decide) (Nat.le_of_ble_eq_true rfl) rfl o_Wr_shortens l_Wr_128 rfl (by first | assumption | exact ga G (by decide) rfl | exact lgA LG (by omega)) rfl (c_Wr_shortens (f := f) G ho ht hv (fun j _ => hbd j) hcl (fun z1 => ?_) (fun z1 => ?_)) <;> try dsimp only [psh])))
          | refine T_getR (pc1 := 60) (pc := 57) k_Wr_measure_57 rfl f_Wr_66 rfl (by first | assumption | exact ga G (by decide) rfl | exact lgA LG (by omega)) (by first | assumption | exact gr G (by decide) rfl | exact lgR LG (by omega)) ?_
          | refine T_iload (pc1 := 62) (pc := 60) k_Wr_measure_60 rfl rfl ?_
          | refine T_aaldQ (e0 := 4) (pc1 := 63) (pc := 62) k_Wr_measure_62 rfl (by first | assumption | exact ga G (by decide) rfl | exact lgA LG (by omega)) (by decide) (by omega) (by omega) (by first | assumption | exact gr G (by decide) rfl | exact lgR LG (by omega)) ?_
          | refine T_aaldQ (e0 := 0) (pc1 := 63) (pc := 62) k_Wr_measure_62 rfl (by first | assumption | exact ga G (by decide) rfl | exact lgA LG (by omega)) (by decide) (by omega) (by omega) (by first | assumption | exact gr G (by decide) rfl | exact lgR LG (by omega)) ?_
          | refine T_aaldQ (e0 := 1) (pc1 := 63) (pc := 62) k_Wr_measure_62 rfl (by first | assumption | exact ga G (by decide) rfl | exact lgA LG (by omega)) (by decide) (by omega) (by omega) (by first | assumption | exact gr G (by decide) rfl | exact lgR LG (by omega)) ?_
          | refine T_aaldQ (e0 := 2) (pc1 := 63) (pc := 62) k_Wr_measure_62 rfl (by first | assumption | exact ga G (by decide) rfl | exact lgA LG (by omega)) (by decide) (by omega) (by omega) (by first | assumption | exact gr G (by decide) rfl | exact lgR LG (by omega)) ?_
          | refine T_aaldQ (e0 := 3) (pc1 := 63) (pc := 62) k_Wr_measure_62 rfl (by first | assumption | exact ga G (by decide) rfl | exact lgA LG (by omega)) (by decide) (by omega) (by omega) (by first | assumption | exact gr G (by decide) rfl | exact lgR LG (by omega)) ?_
          | refine T_astore (pc1 := 65) (pc := 63) k_Wr_measure_63 rfl (Nat.le_of_ble_eq_true rfl) ?_
          | refine T_astoreN (pc1 := 65) (pc := 63) k_Wr_measure_63 rfl (Nat.le_of_ble_eq_true rfl) ?_
          | refine T_iload_n (pc1 := 66) (pc := 65) k_Wr_measure_65 rfl rfl ?_
          | refine T_aload_n (pc1 := 67) (pc := 66) k_Wr_measure_66 rfl rfl ?_
          | refine T_aload_nN (pc1 := 67) (pc := 66) k_Wr_measure_66 rfl rfl ?_
          | refine T_aload (pc1 := 69) (pc := 67) k_Wr_measure_67 rfl rfl ?_
          | refine T_aloadN (pc1 := 69) (pc := 67) k_Wr_measure_67 rfl rfl ?_
          | refine T_getV (pc1 := 72) (pc := 69) k_Wr_measure_69 rfl f_Wr_122 rfl (by first | assumption | exact ga G (by decide) rfl | exact lgA LG (by omega)) (by first | assumption | (simp (disch := omega) only [pI_eq, pI_row, pI_col, va_up_self, va_up_ne, ne_eq, not_false_eq_true] <;> rfl) | rfl) ?_
          | refine T_aload (pc1 := 74) (pc := 72) k_Wr_measure_72 rfl rfl ?_
          | refine T_aloadN (pc1 := 74) (pc := 72) k_Wr_measure_72 rfl rfl ?_
          | refine T_getV (pc1 := 77) (pc := 74) k_Wr_measure_74 rfl f_Wr_125 rfl (by first | assumption | exact ga G (by decide) rfl | exact lgA LG (by omega)) (by first | assumption | (simp (disch := omega) only [pI_eq, pI_row, pI_col, va_up_self, va_up_ne, ne_eq, not_false_eq_true] <;> rfl) | rfl) ?_
          | refine T_aload_n (pc1 := 78) (pc := 77) k_Wr_measure_77 rfl rfl ?_
          | refine T_aload_nN (pc1 := 78) (pc := 77) k_Wr_measure_77 rfl rfl ?_
          | refine T_getR (pc1 := 81) (pc := 78) k_Wr_measure_78 rfl f_Wr_9 rfl (by first | assumption | exact ga G (by decide) rfl | exact lgA LG (by omega)) (by first | assumption | exact gr G (by decide) rfl | exact lgR LG (by omega)) ?_
          | refine T_iload (pc1 := 83) (pc := 81) k_Wr_measure_81 rfl rfl ?_
          | (refine T_cV (As := [_, _, _]) (d1 := 1) (pc1 := 87) (pc := 84) k_Wr_measure_84 rfl (by decide) (Nat.le_of_ble_eq_true rfl) rfl o_Wr_shortens l_Wr_128 rfl (by first | assumption | exact ga G (by decide) rfl | exact lgA LG (by omega)) rfl (c_Wr_shortens (f := f) G ho ht hv (fun j _ => hbd j) hcl (fun z1 => ?_) (fun z1 => ?_)) <;> try dsimp only [psh]))
        · -- the first shortens nothing
          have or0 : nI sh ||| nI 0 = nI sh := by rw [or_nI (by omega) (by omega), Nat.or_zero]
          repeat' (first
            | ((refine T_ior (pc1 := 88) (pc := 87) k_Wr_measure_87 rfl ?_; rw [or0]) <;> try (refine T_istore_n (pc1 := 89) (pc := 88) k_Wr_measure_88 rfl (Nat.le_of_ble_eq_true rfl) ?_ <;> try (refine T_iload_n (pc1 := 90) (pc := 89) k_Wr_measure_89 rfl rfl ?_ <;> try ((first | refine T_aload_n (pc1 := 91) (pc := 90) k_Wr_measure_90 rfl rfl ?_ | refine T_aload_nN (pc1 := 91) (pc := 90) k_Wr_measure_90 rfl rfl ?_) <;> try ((first | refine T_aload (pc1 := 93) (pc := 91) k_Wr_measure_91 rfl rfl ?_ | refine T_aloadN (pc1 := 93) (pc := 91) k_Wr_measure_91 rfl rfl ?_) <;> try (refine T_getV (pc1 := 96) (pc := 93) k_Wr_measure_93 rfl f_Wr_125 rfl (by first | assumption | exact ga G (by decide) rfl | exact lgA LG (by omega)) (by first | assumption | (simp (disch := omega) only [pI_eq, pI_row, pI_col, va_up_self, va_up_ne, ne_eq, not_false_eq_true] <;> rfl) | rfl) ?_ <;> try ((first | refine T_aload (pc1 := 98) (pc := 96) k_Wr_measure_96 rfl rfl ?_ | refine T_aloadN (pc1 := 98) (pc := 96) k_Wr_measure_96 rfl rfl ?_) <;> try (refine T_getV (pc1 := 101) (pc := 98) k_Wr_measure_98 rfl f_Wr_122 rfl (by first | assumption | exact ga G (by decide) rfl | exact lgA LG (by omega)) (by first | assumption | (simp (disch := omega) only [pI_eq, pI_row, pI_col, va_up_self, va_up_ne, ne_eq, not_false_eq_true] <;> rfl) | rfl) ?_ <;> try ((first | refine T_aload_n (pc1 := 102) (pc := 101) k_Wr_measure_101 rfl rfl ?_ | refine T_aload_nN (pc1 := 102) (pc := 101) k_Wr_measure_101 rfl rfl ?_) <;> try (refine T_getR (pc1 := 105) (pc := 102) k_Wr_measure_102 rfl f_Wr_9 rfl (by first | assumption | exact ga G (by decide) rfl | exact lgA LG (by omega)) (by first | assumption | exact gr G (by decide) rfl | exact lgR LG (by omega)) ?_ <;> try (refine T_iload (pc1 := 107) (pc := 105) k_Wr_measure_105 rfl rfl ?_ <;> try ((first | refine T_ialdN (pc1 := 108) (pc := 107) k_Wr_measure_107 rfl (by first | assumption | exact ga G (by decide) rfl | exact lgA LG (by omega)) (by omega) (by omega) (by first | assumption | (simp (disch := omega) only [pI_eq, pI_row, pI_col, va_up_self, va_up_ne, ne_eq, not_false_eq_true] <;> rfl) | rfl) ?_ | refine T_iald (pc1 := 108) (pc := 107) k_Wr_measure_107 rfl (by first | assumption | exact ga G (by decide) rfl | exact lgA LG (by omega)) (by assumption) ?_) <;> try ((refine T_cV (As := [_, _, _]) (d1 := 1) (pc1 := 111) (pc := 108) k_Wr_measure_108 rfl (by decide) (Nat.le_of_ble_eq_true rfl) rfl o_Wr_shortens l_Wr_128 rfl (by first | assumption | exact ga G (by decide) rfl | exact lgA LG (by omega)) rfl (c_Wr_shortens (f := f) G ht ho hv (fun j _ => hbd j) hcl (fun z2 => ?_) (fun z2 => ?_)) <;> try dsimp only [psh]))))))))))))))
            | refine T_istore_n (pc1 := 89) (pc := 88) k_Wr_measure_88 rfl (Nat.le_of_ble_eq_true rfl) ?_
            | refine T_iload_n (pc1 := 90) (pc := 89) k_Wr_measure_89 rfl rfl ?_
            | refine T_aload_n (pc1 := 91) (pc := 90) k_Wr_measure_90 rfl rfl ?_
            | refine T_aload_nN (pc1 := 91) (pc := 90) k_Wr_measure_90 rfl rfl ?_
            | refine T_aload (pc1 := 93) (pc := 91) k_Wr_measure_91 rfl rfl ?_
            | refine T_aloadN (pc1 := 93) (pc := 91) k_Wr_measure_91 rfl rfl ?_
            | refine T_getV (pc1 := 96) (pc := 93) k_Wr_measure_93 rfl f_Wr_125 rfl (by first | assumption | exact ga G (by decide) rfl | exact lgA LG (by omega)) (by first | assumption | (simp (disch := omega) only [pI_eq, pI_row, pI_col, va_up_self, va_up_ne, ne_eq, not_false_eq_true] <;> rfl) | rfl) ?_
            | refine T_aload (pc1 := 98) (pc := 96) k_Wr_measure_96 rfl rfl ?_
            | refine T_aloadN (pc1 := 98) (pc := 96) k_Wr_measure_96 rfl rfl ?_
            | refine T_getV (pc1 := 101) (pc := 98) k_Wr_measure_98 rfl f_Wr_122 rfl (by first | assumption | exact ga G (by decide) rfl | exact lgA LG (by omega)) (by first | assumption | (simp (disch := omega) only [pI_eq, pI_row, pI_col, va_up_self, va_up_ne, ne_eq, not_false_eq_true] <;> rfl) | rfl) ?_
            | refine T_aload_n (pc1 := 102) (pc := 101) k_Wr_measure_101 rfl rfl ?_
            | refine T_aload_nN (pc1 := 102) (pc := 101) k_Wr_measure_101 rfl rfl ?_
            | refine T_getR (pc1 := 105) (pc := 102) k_Wr_measure_102 rfl f_Wr_9 rfl (by first | assumption | exact ga G (by decide) rfl | exact lgA LG (by omega)) (by first | assumption | exact gr G (by decide) rfl | exact lgR LG (by omega)) ?_
            | refine T_iload (pc1 := 107) (pc := 105) k_Wr_measure_105 rfl rfl ?_
            | refine T_ialdN (pc1 := 108) (pc := 107) k_Wr_measure_107 rfl (by first | assumption | exact ga G (by decide) rfl | exact lgA LG (by omega)) (by omega) (by omega) (by first | assumption | (simp (disch := omega) only [pI_eq, pI_row, pI_col, va_up_self, va_up_ne, ne_eq, not_false_eq_true] <;> rfl) | rfl) ?_
            | refine T_iald (pc1 := 108) (pc := 107) k_Wr_measure_107 rfl (by first | assumption | exact ga G (by decide) rfl | exact lgA LG (by omega)) (by assumption) ?_
            | (refine T_cV (As := [_, _, _]) (d1 := 1) (pc1 := 111) (pc := 108) k_Wr_measure_108 rfl (by decide) (Nat.le_of_ble_eq_true rfl) rfl o_Wr_shortens l_Wr_128 rfl (by first | assumption | exact ga G (by decide) rfl | exact lgA LG (by omega)) rfl (c_Wr_shortens (f := f) G ht ho hv (fun j _ => hbd j) hcl (fun z2 => ?_) (fun z2 => ?_)) <;> try dsimp only [psh]))
          · have es2 : rx f t o (c b) = f := rx_same z1 z2
            rw [es2] at ih
            repeat' (first
              | ((refine T_ior (pc1 := 112) (pc := 111) k_Wr_measure_111 rfl ?_; rw [or0]) <;> try (refine T_istore_n (pc1 := 113) (pc := 112) k_Wr_measure_112 rfl (Nat.le_of_ble_eq_true rfl) ?_))
              | ((first | refine T_iincN (b := 1) (pc1 := 116) (pc := 113) k_Wr_measure_113 rfl rfl (by decide) ?_ | refine T_iinc (v := (nI 1)) (pc1 := 116) (pc := 113) k_Wr_measure_113 rfl rfl (by decide) ?_) <;> try (refine T_goto (tgt := 37) (pc := 116) k_Wr_measure_116 rfl ?_))
              | refine T_istore_n (pc1 := 113) (pc := 112) k_Wr_measure_112 rfl (Nat.le_of_ble_eq_true rfl) ?_
              | refine T_goto (tgt := 37) (pc := 116) k_Wr_measure_116 rfl ?_)
            exact ih sh _ J (by omega) hsh hsame hJ hv kx
          · have or1 : nI sh ||| nI 1 = nI 1 := by
              obtain rfl | rfl : sh = 0 ∨ sh = 1 := by omega
              · rfl
              · rfl
            repeat' (first
              | ((refine T_ior (pc1 := 112) (pc := 111) k_Wr_measure_111 rfl ?_; rw [or1]) <;> try (refine T_istore_n (pc1 := 113) (pc := 112) k_Wr_measure_112 rfl (Nat.le_of_ble_eq_true rfl) ?_))
              | ((first | refine T_iincN (b := 1) (pc1 := 116) (pc := 113) k_Wr_measure_113 rfl rfl (by decide) ?_ | refine T_iinc (v := (nI 1)) (pc1 := 116) (pc := 113) k_Wr_measure_113 rfl rfl (by decide) ?_) <;> try (refine T_goto (tgt := 37) (pc := 116) k_Wr_measure_116 rfl ?_))
              | refine T_istore_n (pc1 := 113) (pc := 112) k_Wr_measure_112 rfl (Nat.le_of_ble_eq_true rfl) ?_
              | refine T_goto (tgt := 37) (pc := 116) k_Wr_measure_116 rfl ?_)
            refine ih 1 _ _ (by omega) (by omega) (fun q => absurd q (by decide)) (eqx_pI hJ _ (by decide)) (fun v hv8 => ?_) kx
            rw [pI_self]
            by_cases hvo : v = o
            · subst hvo; rw [va_up_self, rx_t (Ne.symm hne) hc0]; congr 1; omega
            · rw [va_up_ne _ _ hvo, hv v hv8]
              by_cases hvt : v = t
              · subst hvt; rw [rx_o (Ne.symm hne) hc0]; congr 1; omega
              · rw [rx_n hvt hvo]
        · -- the first shortens
          have or1 : nI sh ||| nI 1 = nI 1 := by
            obtain rfl | rfl : sh = 0 ∨ sh = 1 := by omega
            · rfl
            · rfl
          have hv2 : ∀ j, j < 8 → pI J 65 t (nI (f o + c b)) 65 j = nI (va_up f t (f o + c b) j) := fun j hj => by
            rw [pI_self]
            by_cases hjt : j = t
            · subst hjt; rw [va_up_self, va_up_self]
            · rw [va_up_ne _ _ hjt, va_up_ne _ _ hjt]; exact hv j hj
          have hb2 : ∀ j, j < 8 → va_up f t (f o + c b) j ≤ 1000000 := fun j hj => by
            by_cases hjt : j = t
            · subst hjt; rw [va_up_self]; have := hbd j; omega
            · rw [va_up_ne _ _ hjt]; exact hbd j
          have x1 : va_up f t (f o + c b) t = f o + c b := va_up_self _ _ _
          have x2 : va_up f t (f o + c b) o = f o := va_up_ne _ _ hne
          have f1b : pI J 65 t (nI (f o + c b)) (a + 6 + b) 1 = nI o := (d1 _ _ _).trans f1
          have f2b : pI J 65 t (nI (f o + c b)) (a + 6 + b) 2 = nI t := (d1 _ _ _).trans f2
          have c64b : pI J 65 t (nI (f o + c b)) 64 b = nI (c b) := (pI_row (by decide)).trans c64
          have one1 : nI 1 ||| nI 0 = nI 1 := rfl
          repeat' (first
            | ((refine T_ior (pc1 := 88) (pc := 87) k_Wr_measure_87 rfl ?_; rw [or1]) <;> try (refine T_istore_n (pc1 := 89) (pc := 88) k_Wr_measure_88 rfl (Nat.le_of_ble_eq_true rfl) ?_ <;> try (refine T_iload_n (pc1 := 90) (pc := 89) k_Wr_measure_89 rfl rfl ?_ <;> try ((first | refine T_aload_n (pc1 := 91) (pc := 90) k_Wr_measure_90 rfl rfl ?_ | refine T_aload_nN (pc1 := 91) (pc := 90) k_Wr_measure_90 rfl rfl ?_) <;> try ((first | refine T_aload (pc1 := 93) (pc := 91) k_Wr_measure_91 rfl rfl ?_ | refine T_aloadN (pc1 := 93) (pc := 91) k_Wr_measure_91 rfl rfl ?_) <;> try (refine T_getV (pc1 := 96) (pc := 93) k_Wr_measure_93 rfl f_Wr_125 rfl (by first | assumption | exact ga G (by decide) rfl | exact lgA LG (by omega)) (by first | assumption | (simp (disch := omega) only [pI_eq, pI_row, pI_col, va_up_self, va_up_ne, ne_eq, not_false_eq_true] <;> rfl) | rfl) ?_ <;> try ((first | refine T_aload (pc1 := 98) (pc := 96) k_Wr_measure_96 rfl rfl ?_ | refine T_aloadN (pc1 := 98) (pc := 96) k_Wr_measure_96 rfl rfl ?_) <;> try (refine T_getV (pc1 := 101) (pc := 98) k_Wr_measure_98 rfl f_Wr_122 rfl (by first | assumption | exact ga G (by decide) rfl | exact lgA LG (by omega)) (by first | assumption | (simp (disch := omega) only [pI_eq, pI_row, pI_col, va_up_self, va_up_ne, ne_eq, not_false_eq_true] <;> rfl) | rfl) ?_ <;> try ((first | refine T_aload_n (pc1 := 102) (pc := 101) k_Wr_measure_101 rfl rfl ?_ | refine T_aload_nN (pc1 := 102) (pc := 101) k_Wr_measure_101 rfl rfl ?_) <;> try (refine T_getR (pc1 := 105) (pc := 102) k_Wr_measure_102 rfl f_Wr_9 rfl (by first | assumption | exact ga G (by decide) rfl | exact lgA LG (by omega)) (by first | assumption | exact gr G (by decide) rfl | exact lgR LG (by omega)) ?_ <;> try (refine T_iload (pc1 := 107) (pc := 105) k_Wr_measure_105 rfl rfl ?_ <;> try ((first | refine T_ialdN (pc1 := 108) (pc := 107) k_Wr_measure_107 rfl (by first | assumption | exact ga G (by decide) rfl | exact lgA LG (by omega)) (by omega) (by omega) (by first | assumption | (simp (disch := omega) only [pI_eq, pI_row, pI_col, va_up_self, va_up_ne, ne_eq, not_false_eq_true] <;> rfl) | rfl) ?_ | refine T_iald (pc1 := 108) (pc := 107) k_Wr_measure_107 rfl (by first | assumption | exact ga G (by decide) rfl | exact lgA LG (by omega)) (by assumption) ?_) <;> try ((refine T_cV (As := [_, _, _]) (d1 := 1) (pc1 := 111) (pc := 108) k_Wr_measure_108 rfl (by decide) (Nat.le_of_ble_eq_true rfl) rfl o_Wr_shortens l_Wr_128 rfl (by first | assumption | exact ga G (by decide) rfl | exact lgA LG (by omega)) rfl (c_Wr_shortens (f := va_up f t (f o + c b)) G ht ho hv2 hb2 hcl (fun z2 => ?_) (fun z2 => ?_)) <;> try dsimp only [psh]) <;> try ((refine T_ior (pc1 := 112) (pc := 111) k_Wr_measure_111 rfl ?_; first | rw [one1] | rw [show nI 1 ||| nI 1 = nI 1 from rfl])))))))))))))))
            | (refine T_istore_n (pc1 := 113) (pc := 112) k_Wr_measure_112 rfl (Nat.le_of_ble_eq_true rfl) ?_)
            | ((first | refine T_iincN (b := 1) (pc1 := 116) (pc := 113) k_Wr_measure_113 rfl rfl (by decide) ?_ | refine T_iinc (v := (nI 1)) (pc1 := 116) (pc := 113) k_Wr_measure_113 rfl rfl (by decide) ?_) <;> try (refine T_goto (tgt := 37) (pc := 116) k_Wr_measure_116 rfl ?_))
            | refine T_istore_n (pc1 := 89) (pc := 88) k_Wr_measure_88 rfl (Nat.le_of_ble_eq_true rfl) ?_
            | refine T_iload_n (pc1 := 90) (pc := 89) k_Wr_measure_89 rfl rfl ?_
            | refine T_aload_n (pc1 := 91) (pc := 90) k_Wr_measure_90 rfl rfl ?_
            | refine T_aload_nN (pc1 := 91) (pc := 90) k_Wr_measure_90 rfl rfl ?_
            | refine T_aload (pc1 := 93) (pc := 91) k_Wr_measure_91 rfl rfl ?_
            | refine T_aloadN (pc1 := 93) (pc := 91) k_Wr_measure_91 rfl rfl ?_
            | refine T_getV (pc1 := 96) (pc := 93) k_Wr_measure_93 rfl f_Wr_125 rfl (by first | assumption | exact ga G (by decide) rfl | exact lgA LG (by omega)) (by first | assumption | (simp (disch := omega) only [pI_eq, pI_row, pI_col, va_up_self, va_up_ne, ne_eq, not_false_eq_true] <;> rfl) | rfl) ?_
            | refine T_aload (pc1 := 98) (pc := 96) k_Wr_measure_96 rfl rfl ?_
            | refine T_aloadN (pc1 := 98) (pc := 96) k_Wr_measure_96 rfl rfl ?_
            | refine T_getV (pc1 := 101) (pc := 98) k_Wr_measure_98 rfl f_Wr_122 rfl (by first | assumption | exact ga G (by decide) rfl | exact lgA LG (by omega)) (by first | assumption | (simp (disch := omega) only [pI_eq, pI_row, pI_col, va_up_self, va_up_ne, ne_eq, not_false_eq_true] <;> rfl) | rfl) ?_
            | refine T_aload_n (pc1 := 102) (pc := 101) k_Wr_measure_101 rfl rfl ?_
            | refine T_aload_nN (pc1 := 102) (pc := 101) k_Wr_measure_101 rfl rfl ?_
            | refine T_getR (pc1 := 105) (pc := 102) k_Wr_measure_102 rfl f_Wr_9 rfl (by first | assumption | exact ga G (by decide) rfl | exact lgA LG (by omega)) (by first | assumption | exact gr G (by decide) rfl | exact lgR LG (by omega)) ?_
            | refine T_iload (pc1 := 107) (pc := 105) k_Wr_measure_105 rfl rfl ?_
            | refine T_ialdN (pc1 := 108) (pc := 107) k_Wr_measure_107 rfl (by first | assumption | exact ga G (by decide) rfl | exact lgA LG (by omega)) (by omega) (by omega) (by first | assumption | (simp (disch := omega) only [pI_eq, pI_row, pI_col, va_up_self, va_up_ne, ne_eq, not_false_eq_true] <;> rfl) | rfl) ?_
            | refine T_iald (pc1 := 108) (pc := 107) k_Wr_measure_107 rfl (by first | assumption | exact ga G (by decide) rfl | exact lgA LG (by omega)) (by assumption) ?_
            | (refine T_cV (As := [_, _, _]) (d1 := 1) (pc1 := 111) (pc := 108) k_Wr_measure_108 rfl (by decide) (Nat.le_of_ble_eq_true rfl) rfl o_Wr_shortens l_Wr_128 rfl (by first | assumption | exact ga G (by decide) rfl | exact lgA LG (by omega)) rfl (c_Wr_shortens (f := va_up f t (f o + c b)) G ht ho hv2 hb2 hcl (fun z2 => ?_) (fun z2 => ?_)) <;> try dsimp only [psh])
            | (refine T_ior (pc1 := 112) (pc := 111) k_Wr_measure_111 rfl ?_; first | rw [one1] | rw [show nI 1 ||| nI 1 = nI 1 from rfl])
            | refine T_goto (tgt := 37) (pc := 116) k_Wr_measure_116 rfl ?_)
          · refine ih 1 _ _ (by omega) (by omega) (fun q => absurd q (by decide)) (eqx_pI hJ _ (by decide)) (fun v hv8 => ?_) kx
            rw [hv2 v hv8]
            rw [x1, x2] at z2
            by_cases hvt : v = t
            · subst hvt; rw [va_up_self, rx_o (Ne.symm hne) hc0]; congr 1; omega
            · rw [va_up_ne _ _ hvt]
              by_cases hvo : v = o
              · subst hvo; rw [rx_t (Ne.symm hne) hc0]; congr 1; omega
              · rw [rx_n hvt hvo]
          · rw [x1, x2] at z2
            exfalso; omega
  have outer : ∀ q r o5 o6 (J : IM), r + q = 8 → eqx [65] I J → (∀ v, v < 8 → J 65 v = nI (rnds (swp (ed N)) c n (ini goal) r v)) → Rl 2 M_Wr_measure 21 [some (.ref 63), some (.ref a), some (.int (nI goal)), some (.int (nI 1)), some (.int (nI r)), o5, o6] [] g J K := by
    intro q
    induction q with
    | zero =>
      intro r o5 o6 J hr hJ hv
      have hr : r = 8 := by omega
      subst hr
      repeat' (first
        | (refine T_iload (pc1 := 23) (pc := 21) k_Wr_measure_21 rfl rfl ?_ <;> try (refine T_bipush (v := (nI 8)) (pc1 := 25) (pc := 23) k_Wr_measure_23 rfl (by decide) ?_ <;> try ((first | (with_reducible refine T_icmp_geN (tgt := 125) (pc1 := 28) (pc := 25) k_Wr_measure_25 (by decide) (by decide) (by omega) (by omega) (fun hc => ?_) (fun hc => ?_) <;> first | (exfalso; omega) | skip) | refine T_icmp_ge_t (tgt := 125) (pc := 25) k_Wr_measure_25 rfl (by decide) ?_ | refine T_icmp_ge_f (tgt := 125) (pc1 := 28) (pc := 25) k_Wr_measure_25 rfl rfl (by decide) ?_ | refine T_icmp_ge (tgt := 125) (pc1 := 28) (pc := 25) k_Wr_measure_25 rfl rfl (fun hc => ?_) (fun hc => ?_)))))
        | refine T_bipush (v := (nI 8)) (pc1 := 25) (pc := 23) k_Wr_measure_23 rfl (by decide) ?_
        | (with_reducible refine T_icmp_geN (tgt := 125) (pc1 := 28) (pc := 25) k_Wr_measure_25 (by decide) (by decide) (by omega) (by omega) (fun hc => ?_) (fun hc => ?_) <;> first | (exfalso; omega) | skip)
        | refine T_icmp_ge_t (tgt := 125) (pc := 25) k_Wr_measure_25 rfl (by decide) ?_
        | refine T_icmp_ge_f (tgt := 125) (pc1 := 28) (pc := 25) k_Wr_measure_25 rfl rfl (by decide) ?_
        | refine T_icmp_ge (tgt := 125) (pc1 := 28) (pc := 25) k_Wr_measure_25 rfl rfl (fun hc => ?_) (fun hc => ?_))
      exact fin J _ _ _ _ _ hJ hv (fun v hv8 => rfl)
    | succ q ih =>
      intro r o5 o6 J hr hJ hv
      refine T_iload (pc1 := 23) (pc := 21) k_Wr_measure_21 rfl rfl ?_
      repeat' (first
        | (refine T_bipush (v := (nI 8)) (pc1 := 25) (pc := 23) k_Wr_measure_23 rfl (by decide) ?_ <;> try ((first | (with_reducible refine T_icmp_geN (tgt := 125) (pc1 := 28) (pc := 25) k_Wr_measure_25 (by decide) (by decide) (by omega) (by omega) (fun hc => ?_) (fun hc => ?_) <;> first | (exfalso; omega) | skip) | refine T_icmp_ge_t (tgt := 125) (pc := 25) k_Wr_measure_25 rfl (by decide) ?_ | refine T_icmp_ge_f (tgt := 125) (pc1 := 28) (pc := 25) k_Wr_measure_25 rfl rfl (by decide) ?_ | refine T_icmp_ge (tgt := 125) (pc1 := 28) (pc := 25) k_Wr_measure_25 rfl rfl (fun hc => ?_) (fun hc => ?_))))
        | (refine T_iload_n (pc1 := 29) (pc := 28) k_Wr_measure_28 rfl rfl ?_ <;> try ((first | (with_reducible refine T_if_eqN (tgt := 125) (pc1 := 32) (pc := 29) k_Wr_measure_29 (by decide) (by decide) (by omega) (fun hc => ?_) (fun hc => ?_) <;> first | (exfalso; omega) | skip) | refine T_if_eq_t (tgt := 125) (pc := 29) k_Wr_measure_29 rfl (by decide) ?_ | refine T_if_eq_f (tgt := 125) (pc1 := 32) (pc := 29) k_Wr_measure_29 rfl rfl (by decide) ?_ | refine T_if_eq (tgt := 125) (pc1 := 32) (pc := 29) k_Wr_measure_29 rfl rfl (fun hc => ?_) (fun hc => ?_))))
        | (refine T_iconst (v := (nI 0)) (pc1 := 33) (pc := 32) k_Wr_measure_32 rfl (by decide) ?_ <;> try (refine T_istore_n (pc1 := 34) (pc := 33) k_Wr_measure_33 rfl (Nat.le_of_ble_eq_true rfl) ?_ <;> try (refine T_iconst (v := (nI 0)) (pc1 := 35) (pc := 34) k_Wr_measure_34 rfl (by decide) ?_ <;> try (refine T_istore (pc1 := 37) (pc := 35) k_Wr_measure_35 rfl (Nat.le_of_ble_eq_true rfl) ?_))))
        | (with_reducible refine T_icmp_geN (tgt := 125) (pc1 := 28) (pc := 25) k_Wr_measure_25 (by decide) (by decide) (by omega) (by omega) (fun hc => ?_) (fun hc => ?_) <;> first | (exfalso; omega) | skip)
        | refine T_icmp_ge_t (tgt := 125) (pc := 25) k_Wr_measure_25 rfl (by decide) ?_
        | refine T_icmp_ge_f (tgt := 125) (pc1 := 28) (pc := 25) k_Wr_measure_25 rfl rfl (by decide) ?_
        | refine T_icmp_ge (tgt := 125) (pc1 := 28) (pc := 25) k_Wr_measure_25 rfl rfl (fun hc => ?_) (fun hc => ?_)
        | (with_reducible refine T_if_eqN (tgt := 125) (pc1 := 32) (pc := 29) k_Wr_measure_29 (by decide) (by decide) (by omega) (fun hc => ?_) (fun hc => ?_) <;> first | (exfalso; omega) | skip)
        | refine T_if_eq_t (tgt := 125) (pc := 29) k_Wr_measure_29 rfl (by decide) ?_
        | refine T_if_eq_f (tgt := 125) (pc1 := 32) (pc := 29) k_Wr_measure_29 rfl rfl (by decide) ?_
        | refine T_if_eq (tgt := 125) (pc1 := 32) (pc := 29) k_Wr_measure_29 rfl rfl (fun hc => ?_) (fun hc => ?_)
        | refine T_istore_n (pc1 := 34) (pc := 33) k_Wr_measure_33 rfl (Nat.le_of_ble_eq_true rfl) ?_
        | refine T_iconst (v := (nI 0)) (pc1 := 35) (pc := 34) k_Wr_measure_34 rfl (by decide) ?_
        | refine T_istore (pc1 := 37) (pc := 35) k_Wr_measure_35 rfl (Nat.le_of_ble_eq_true rfl) ?_)
      refine inner n 0 r 0 _ _ J (by omega) rfl (by omega) (by omega) (fun _ => rfl) hJ hv (fun sh o6 J2 hsh hsame hJ2 hv2 => ?_)
      obtain rfl | rfl : sh = 0 ∨ sh = 1 := by omega
      · have hfix := hsame rfl
        repeat' (first
          | ((first | refine T_iincN (b := 1) (pc1 := 122) (pc := 119) k_Wr_measure_119 rfl rfl (by decide) ?_ | refine T_iinc (v := (nI 1)) (pc1 := 122) (pc := 119) k_Wr_measure_119 rfl rfl (by decide) ?_) <;> try (refine T_goto (tgt := 21) (pc := 122) k_Wr_measure_122 rfl ?_))
          | refine T_goto (tgt := 21) (pc := 122) k_Wr_measure_122 rfl ?_)
        rw [hfix] at hv2
        have dn : ∀ v, v < 8 → rnds (swp (ed N)) c n (ini goal) r v = dst (swp (ed N)) c n goal v := fun v hv8 => dst_fix hes hfix hv8
        repeat' (first
          | (refine T_iload (pc1 := 23) (pc := 21) k_Wr_measure_21 rfl rfl ?_ <;> try (refine T_bipush (v := (nI 8)) (pc1 := 25) (pc := 23) k_Wr_measure_23 rfl (by decide) ?_ <;> try ((first | (with_reducible refine T_icmp_geN (tgt := 125) (pc1 := 28) (pc := 25) k_Wr_measure_25 (by decide) (by decide) (by omega) (by omega) (fun hc => ?_) (fun hc => ?_) <;> first | (exfalso; omega) | skip) | refine T_icmp_ge_t (tgt := 125) (pc := 25) k_Wr_measure_25 rfl (by decide) ?_ | refine T_icmp_ge_f (tgt := 125) (pc1 := 28) (pc := 25) k_Wr_measure_25 rfl rfl (by decide) ?_ | refine T_icmp_ge (tgt := 125) (pc1 := 28) (pc := 25) k_Wr_measure_25 rfl rfl (fun hc => ?_) (fun hc => ?_)))))
          | (refine T_iload_n (pc1 := 29) (pc := 28) k_Wr_measure_28 rfl rfl ?_ <;> try ((first | (with_reducible refine T_if_eqN (tgt := 125) (pc1 := 32) (pc := 29) k_Wr_measure_29 (by decide) (by decide) (by omega) (fun hc => ?_) (fun hc => ?_) <;> first | (exfalso; omega) | skip) | refine T_if_eq_t (tgt := 125) (pc := 29) k_Wr_measure_29 rfl (by decide) ?_ | refine T_if_eq_f (tgt := 125) (pc1 := 32) (pc := 29) k_Wr_measure_29 rfl rfl (by decide) ?_ | refine T_if_eq (tgt := 125) (pc1 := 32) (pc := 29) k_Wr_measure_29 rfl rfl (fun hc => ?_) (fun hc => ?_))))
          | refine T_bipush (v := (nI 8)) (pc1 := 25) (pc := 23) k_Wr_measure_23 rfl (by decide) ?_
          | (with_reducible refine T_icmp_geN (tgt := 125) (pc1 := 28) (pc := 25) k_Wr_measure_25 (by decide) (by decide) (by omega) (by omega) (fun hc => ?_) (fun hc => ?_) <;> first | (exfalso; omega) | skip)
          | refine T_icmp_ge_t (tgt := 125) (pc := 25) k_Wr_measure_25 rfl (by decide) ?_
          | refine T_icmp_ge_f (tgt := 125) (pc1 := 28) (pc := 25) k_Wr_measure_25 rfl rfl (by decide) ?_
          | refine T_icmp_ge (tgt := 125) (pc1 := 28) (pc := 25) k_Wr_measure_25 rfl rfl (fun hc => ?_) (fun hc => ?_)
          | (with_reducible refine T_if_eqN (tgt := 125) (pc1 := 32) (pc := 29) k_Wr_measure_29 (by decide) (by decide) (by omega) (fun hc => ?_) (fun hc => ?_) <;> first | (exfalso; omega) | skip)
          | refine T_if_eq_t (tgt := 125) (pc := 29) k_Wr_measure_29 rfl (by decide) ?_
          | refine T_if_eq_f (tgt := 125) (pc1 := 32) (pc := 29) k_Wr_measure_29 rfl rfl (by decide) ?_
          | refine T_if_eq (tgt := 125) (pc1 := 32) (pc := 29) k_Wr_measure_29 rfl rfl (fun hc => ?_) (fun hc => ?_))
        all_goals exact fin J2 _ _ _ _ _ hJ2 hv2 dn
      · repeat' (first
          | ((first | refine T_iincN (b := 1) (pc1 := 122) (pc := 119) k_Wr_measure_119 rfl rfl (by decide) ?_ | refine T_iinc (v := (nI 1)) (pc1 := 122) (pc := 119) k_Wr_measure_119 rfl rfl (by decide) ?_) <;> try (refine T_goto (tgt := 21) (pc := 122) k_Wr_measure_122 rfl ?_))
          | refine T_goto (tgt := 21) (pc := 122) k_Wr_measure_122 rfl ?_)
        exact ih (r + 1) _ _ J2 (by omega) hJ2 hv2
  repeat' (first
    | ((first | refine T_aload_n (pc1 := 1) (pc := 0) k_Wr_measure_0 rfl rfl ?_ | refine T_aload_nN (pc1 := 1) (pc := 0) k_Wr_measure_0 rfl rfl ?_) <;> try (refine T_getR (pc1 := 4) (pc := 1) k_Wr_measure_1 rfl f_Wr_15 rfl (by first | assumption | exact ga G (by decide) rfl | exact lgA LG (by omega)) (by first | assumption | exact gr G (by decide) rfl | exact lgR LG (by omega)) ?_ <;> try (refine T_ldc (v := (nI 1000000)) (pc1 := 6) (pc := 4) k_Wr_measure_4 rfl c_Wr_106 ?_ <;> try ((refine T_cS (As := [_, _]) (d1 := 1) (pc1 := 9) (pc := 6) k_Wr_measure_6 rfl (by decide) (Nat.le_of_ble_eq_true rfl) rfl o_Ja_fill l_Wr_116 rfl (c_Ja_fill (ga G (by decide) rfl) (by decide) (fun J hJ hJv => ?_)) <;> try dsimp only [psh]) <;> try ((first | refine T_aload_n (pc1 := 10) (pc := 9) k_Wr_measure_9 rfl rfl ?_ | refine T_aload_nN (pc1 := 10) (pc := 9) k_Wr_measure_9 rfl rfl ?_) <;> try (refine T_getR (pc1 := 13) (pc := 10) k_Wr_measure_10 rfl f_Wr_15 rfl (by first | assumption | exact ga G (by decide) rfl | exact lgA LG (by omega)) (by first | assumption | exact gr G (by decide) rfl | exact lgR LG (by omega)) ?_ <;> try (refine T_iload_n (pc1 := 14) (pc := 13) k_Wr_measure_13 rfl rfl ?_ <;> try (refine T_iconst (v := (nI 0)) (pc1 := 15) (pc := 14) k_Wr_measure_14 rfl (by decide) ?_ <;> try (refine T_iastN (pc1 := 16) (pc := 15) k_Wr_measure_15 rfl (by first | assumption | exact ga G (by decide) rfl | exact lgA LG (by omega)) (by omega) (by omega) ?_ <;> try (refine T_iconst (v := (nI 1)) (pc1 := 17) (pc := 16) k_Wr_measure_16 rfl (by decide) ?_ <;> try (refine T_istore_n (pc1 := 18) (pc := 17) k_Wr_measure_17 rfl (Nat.le_of_ble_eq_true rfl) ?_ <;> try (refine T_iconst (v := (nI 0)) (pc1 := 19) (pc := 18) k_Wr_measure_18 rfl (by decide) ?_ <;> try (refine T_istore (pc1 := 21) (pc := 19) k_Wr_measure_19 rfl (Nat.le_of_ble_eq_true rfl) ?_)))))))))))))
    | refine T_getR (pc1 := 4) (pc := 1) k_Wr_measure_1 rfl f_Wr_15 rfl (by first | assumption | exact ga G (by decide) rfl | exact lgA LG (by omega)) (by first | assumption | exact gr G (by decide) rfl | exact lgR LG (by omega)) ?_
    | refine T_ldc (v := (nI 1000000)) (pc1 := 6) (pc := 4) k_Wr_measure_4 rfl c_Wr_106 ?_
    | (refine T_cS (As := [_, _]) (d1 := 1) (pc1 := 9) (pc := 6) k_Wr_measure_6 rfl (by decide) (Nat.le_of_ble_eq_true rfl) rfl o_Ja_fill l_Wr_116 rfl (c_Ja_fill (ga G (by decide) rfl) (by decide) (fun J hJ hJv => ?_)) <;> try dsimp only [psh])
    | refine T_aload_n (pc1 := 10) (pc := 9) k_Wr_measure_9 rfl rfl ?_
    | refine T_aload_nN (pc1 := 10) (pc := 9) k_Wr_measure_9 rfl rfl ?_
    | refine T_getR (pc1 := 13) (pc := 10) k_Wr_measure_10 rfl f_Wr_15 rfl (by first | assumption | exact ga G (by decide) rfl | exact lgA LG (by omega)) (by first | assumption | exact gr G (by decide) rfl | exact lgR LG (by omega)) ?_
    | refine T_iload_n (pc1 := 14) (pc := 13) k_Wr_measure_13 rfl rfl ?_
    | refine T_iconst (v := (nI 0)) (pc1 := 15) (pc := 14) k_Wr_measure_14 rfl (by decide) ?_
    | refine T_iastN (pc1 := 16) (pc := 15) k_Wr_measure_15 rfl (by first | assumption | exact ga G (by decide) rfl | exact lgA LG (by omega)) (by omega) (by omega) ?_
    | refine T_iconst (v := (nI 1)) (pc1 := 17) (pc := 16) k_Wr_measure_16 rfl (by decide) ?_
    | refine T_istore_n (pc1 := 18) (pc := 17) k_Wr_measure_17 rfl (Nat.le_of_ble_eq_true rfl) ?_
    | refine T_iconst (v := (nI 0)) (pc1 := 19) (pc := 18) k_Wr_measure_18 rfl (by decide) ?_
    | refine T_istore (pc1 := 21) (pc := 19) k_Wr_measure_19 rfl (Nat.le_of_ble_eq_true rfl) ?_)
  refine outer 8 0 _ _ _ (by omega) (eqx_pI hJ _ (by decide)) (fun v hv8 => ?_)
  show _ = nI (ini goal v)
  unfold ini
  by_cases h : v = goal
  · subst h; rw [if_pos rfl]; exact pI_eq
  · rw [if_neg h, pI_col h]; exact hJv v hv8
theorem c_La_thinksN {a n tn b : Nat} {N : Row} (LG : LandG g a) (ok : okL N n tn) (LT : LTx g I a N tn) (LB : LBt I a N n) (hb : b < n) (kk : ∀ J, fre stk I J → K (some (.int (nI (thk N tn b)))) g J) : Cl 4 M_La_thinks [.ref a, .ref (a + 6 + b)] g I K := c_La_thinks LG ok LT LB hb (fun J hJ => by rw [(thk_eq ok hb).1]; exact kk J hJ)
theorem c_La_takesN {a n tn b : Nat} {N : Row} (LG : LandG g a) (ok : okL N n tn) (LT : LTx g I a N tn) (LB : LBt I a N n) (hb : b < n) (kk : ∀ J, fre stk I J → K (some (.int (nI (tkk N tn b)))) g J) : Cl 4 M_La_takes [.ref a, .ref (a + 6 + b)] g I K := c_La_takes LG ok LT LB hb (fun J hJ => by rw [(tkk_eq ok hb).1]; exact kk J hJ)
def cf (i : Nat) : Prop := i = 64 ∨ stk i
theorem LBt_fr {P : Nat → Prop} {I J : IM} {a n : Nat} {N : Row} (h : LBt I a N n) (hn : n ≤ 14) (hf : fre P I J) (hP : ∀ i, lnd a i → ¬ P i) : LBt J a N n := by
  have e : ∀ i, lnd a i → J i = I i := fun i hi => hf i (hP i hi)
  have ea := e a ⟨Nat.le_refl _, by omega⟩
  exact ⟨by rw [ea]; exact h.1, by rw [ea]; exact h.2.1, by rw [ea]; exact h.2.2.1, fun b hb k hk => by rw [e _ ⟨by omega, by omega⟩]; exact h.2.2.2 b hb k hk⟩
theorem LTx_cf {g : Geo} {P : Nat → Prop} {I J : IM} {a tn : Nat} {N : Row} (h : LTx g I a N tn) (hf : fre P I J) (hP : ∀ i, lnd a i → ¬ P i) (hP2 : ∀ i, P i → i < 121 ∨ stk i) : LTx g J a N tn := LTx_fr h hf hP2 (hf _ (hP _ ⟨by omega, by omega⟩)) (by rw [hf a (hP a ⟨by omega, by omega⟩)]) (fun _ _ => rfl)
theorem cf_l {a i : Nat} (ha : a + 20 ≤ 61) (h : lnd a i) : ¬ cf i := by unfold lnd at h; unfold cf stk; omega
theorem cf_s {i : Nat} (h : cf i) : i < 121 ∨ stk i := by unfold cf at h; rcases h with h | h; exact Or.inl (by omega); exact Or.inr h
theorem c_Wr_weighByThought {a n tn : Nat} {N : Row} (G : GeoOK g) (LG : LandG g a) (ok : okL N n tn) (LT : LTx g I a N tn) (LB : LBt I a N n) (kk : ∀ J, fre cf I J → (∀ b, b < n → J 64 b = nI (thk N tn b)) → K none g J) : Cl 5 M_Wr_weighByThought [.ref 63, .ref a] g I K := by
  show Rl 5 M_Wr_weighByThought 0 [some (.ref 63), some (.ref a), none] [] g I K
  have h14 := ok.2.1
  obtain ⟨g1, g2, g3, g4, g5, g6, g7, g8, g9, g10, g11, g12, g13, g14⟩ := id LG
  have loop : ∀ q b (J : IM), b + q = n → fre cf I J → (∀ j, j < b → J 64 j = nI (thk N tn j)) → Rl 5 M_Wr_weighByThought 2 [some (.ref 63), some (.ref a), some (.int (nI b))] [] g J K := by
    intro q
    induction q with
    | zero =>
      intro b J hb hJ hv
      have hb : b = n := by omega
      subst hb
      have LB2 := LBt_fr LB h14 hJ (fun i => cf_l g14)
      have c1 := LB2.1
      repeat' (first
        | (refine T_iload_n (pc1 := 3) (pc := 2) k_Wr_weighByThought_2 rfl rfl ?_ <;> try ((first | refine T_aload_n (pc1 := 4) (pc := 3) k_Wr_weighByThought_3 rfl rfl ?_ | refine T_aload_nN (pc1 := 4) (pc := 3) k_Wr_weighByThought_3 rfl rfl ?_) <;> try (refine T_getV (pc1 := 7) (pc := 4) k_Wr_weighByThought_4 rfl f_Wr_107 rfl (by first | assumption | exact ga G (by decide) rfl | exact lgA LG (by omega)) (by first | assumption | (simp (disch := omega) only [pI_eq, pI_row, pI_col, va_up_self, va_up_ne, ne_eq, not_false_eq_true] <;> rfl) | rfl) ?_ <;> try ((first | (with_reducible refine T_icmp_geN (tgt := 32) (pc1 := 10) (pc := 7) k_Wr_weighByThought_7 (by decide) (by decide) (by omega) (by omega) (fun hc => ?_) (fun hc => ?_) <;> first | (exfalso; omega) | skip) | refine T_icmp_ge_t (tgt := 32) (pc := 7) k_Wr_weighByThought_7 rfl (by decide) ?_ | refine T_icmp_ge_f (tgt := 32) (pc1 := 10) (pc := 7) k_Wr_weighByThought_7 rfl rfl (by decide) ?_ | refine T_icmp_ge (tgt := 32) (pc1 := 10) (pc := 7) k_Wr_weighByThought_7 rfl rfl (fun hc => ?_) (fun hc => ?_))))))
        | (refine T_retV (pc := 32) k_Wr_weighByThought_32 rfl ?_)
        | refine T_aload_n (pc1 := 4) (pc := 3) k_Wr_weighByThought_3 rfl rfl ?_
        | refine T_aload_nN (pc1 := 4) (pc := 3) k_Wr_weighByThought_3 rfl rfl ?_
        | refine T_getV (pc1 := 7) (pc := 4) k_Wr_weighByThought_4 rfl f_Wr_107 rfl (by first | assumption | exact ga G (by decide) rfl | exact lgA LG (by omega)) (by first | assumption | (simp (disch := omega) only [pI_eq, pI_row, pI_col, va_up_self, va_up_ne, ne_eq, not_false_eq_true] <;> rfl) | rfl) ?_
        | (with_reducible refine T_icmp_geN (tgt := 32) (pc1 := 10) (pc := 7) k_Wr_weighByThought_7 (by decide) (by decide) (by omega) (by omega) (fun hc => ?_) (fun hc => ?_) <;> first | (exfalso; omega) | skip)
        | refine T_icmp_ge_t (tgt := 32) (pc := 7) k_Wr_weighByThought_7 rfl (by decide) ?_
        | refine T_icmp_ge_f (tgt := 32) (pc1 := 10) (pc := 7) k_Wr_weighByThought_7 rfl rfl (by decide) ?_
        | refine T_icmp_ge (tgt := 32) (pc1 := 10) (pc := 7) k_Wr_weighByThought_7 rfl rfl (fun hc => ?_) (fun hc => ?_))
      exact kk J hJ hv
    | succ q ih =>
      intro b J hb hJ hv
      have hbn : b < n := by omega
      have LB2 := LBt_fr LB h14 hJ (fun i => cf_l g14)
      have LT2 := LTx_cf LT hJ (fun i => cf_l g14) (fun i => cf_s)
      have c1 := LB2.1
      refine T_iload_n (pc1 := 3) (pc := 2) k_Wr_weighByThought_2 rfl rfl ?_
      repeat' (first
        | ((first | refine T_aload_n (pc1 := 4) (pc := 3) k_Wr_weighByThought_3 rfl rfl ?_ | refine T_aload_nN (pc1 := 4) (pc := 3) k_Wr_weighByThought_3 rfl rfl ?_) <;> try (refine T_getV (pc1 := 7) (pc := 4) k_Wr_weighByThought_4 rfl f_Wr_107 rfl (by first | assumption | exact ga G (by decide) rfl | exact lgA LG (by omega)) (by first | assumption | (simp (disch := omega) only [pI_eq, pI_row, pI_col, va_up_self, va_up_ne, ne_eq, not_false_eq_true] <;> rfl) | rfl) ?_ <;> try ((first | (with_reducible refine T_icmp_geN (tgt := 32) (pc1 := 10) (pc := 7) k_Wr_weighByThought_7 (by decide) (by decide) (by omega) (by omega) (fun hc => ?_) (fun hc => ?_) <;> first | (exfalso; omega) | skip) | refine T_icmp_ge_t (tgt := 32) (pc := 7) k_Wr_weighByThought_7 rfl (by decide) ?_ | refine T_icmp_ge_f (tgt := 32) (pc1 := 10) (pc := 7) k_Wr_weighByThought_7 rfl rfl (by decide) ?_ | refine T_icmp_ge (tgt := 32) (pc1 := 10) (pc := 7) k_Wr_weighByThought_7 rfl rfl (fun hc => ?_) (fun hc => ?_)))))
        | ((first | refine T_aload_n (pc1 := 11) (pc := 10) k_Wr_weighByThought_10 rfl rfl ?_ | refine T_aload_nN (pc1 := 11) (pc := 10) k_Wr_weighByThought_10 rfl rfl ?_) <;> try (refine T_getR (pc1 := 14) (pc := 11) k_Wr_weighByThought_11 rfl f_Wr_9 rfl (by first | assumption | exact ga G (by decide) rfl | exact lgA LG (by omega)) (by first | assumption | exact gr G (by decide) rfl | exact lgR LG (by omega)) ?_ <;> try (refine T_iload_n (pc1 := 15) (pc := 14) k_Wr_weighByThought_14 rfl rfl ?_ <;> try ((first | refine T_aload_n (pc1 := 16) (pc := 15) k_Wr_weighByThought_15 rfl rfl ?_ | refine T_aload_nN (pc1 := 16) (pc := 15) k_Wr_weighByThought_15 rfl rfl ?_) <;> try ((first | refine T_aload_n (pc1 := 17) (pc := 16) k_Wr_weighByThought_16 rfl rfl ?_ | refine T_aload_nN (pc1 := 17) (pc := 16) k_Wr_weighByThought_16 rfl rfl ?_) <;> try (refine T_getR (pc1 := 20) (pc := 17) k_Wr_weighByThought_17 rfl f_Wr_66 rfl (by first | assumption | exact ga G (by decide) rfl | exact lgA LG (by omega)) (by first | assumption | exact gr G (by decide) rfl | exact lgR LG (by omega)) ?_ <;> try (refine T_iload_n (pc1 := 21) (pc := 20) k_Wr_weighByThought_20 rfl rfl ?_ <;> try ((first | refine T_aaldQ (e0 := 4) (pc1 := 22) (pc := 21) k_Wr_weighByThought_21 rfl (by first | assumption | exact ga G (by decide) rfl | exact lgA LG (by omega)) (by decide) (by omega) (by omega) (by first | assumption | exact gr G (by decide) rfl | exact lgR LG (by omega)) ?_ | refine T_aaldQ (e0 := 0) (pc1 := 22) (pc := 21) k_Wr_weighByThought_21 rfl (by first | assumption | exact ga G (by decide) rfl | exact lgA LG (by omega)) (by decide) (by omega) (by omega) (by first | assumption | exact gr G (by decide) rfl | exact lgR LG (by omega)) ?_ | refine T_aaldQ (e0 := 1) (pc1 := 22) (pc := 21) k_Wr_weighByThought_21 rfl (by first | assumption | exact ga G (by decide) rfl | exact lgA LG (by omega)) (by decide) (by omega) (by omega) (by first | assumption | exact gr G (by decide) rfl | exact lgR LG (by omega)) ?_ | refine T_aaldQ (e0 := 2) (pc1 := 22) (pc := 21) k_Wr_weighByThought_21 rfl (by first | assumption | exact ga G (by decide) rfl | exact lgA LG (by omega)) (by decide) (by omega) (by omega) (by first | assumption | exact gr G (by decide) rfl | exact lgR LG (by omega)) ?_ | refine T_aaldQ (e0 := 3) (pc1 := 22) (pc := 21) k_Wr_weighByThought_21 rfl (by first | assumption | exact ga G (by decide) rfl | exact lgA LG (by omega)) (by decide) (by omega) (by omega) (by first | assumption | exact gr G (by decide) rfl | exact lgR LG (by omega)) ?_) <;> try ((refine T_cV (As := [_]) (d1 := 4) (pc1 := 25) (pc := 22) k_Wr_weighByThought_22 rfl (by decide) (Nat.le_of_ble_eq_true rfl) rfl o_La_thinks l_Wr_103 rfl (by first | assumption | exact ga G (by decide) rfl | exact lgA LG (by omega)) rfl (c_La_thinksN LG ok LT2 LB2 hbn (fun J2 hJ2 => ?_)) <;> try dsimp only [psh]) <;> try (refine T_iastN (pc1 := 26) (pc := 25) k_Wr_weighByThought_25 rfl (by first | assumption | exact ga G (by decide) rfl | exact lgA LG (by omega)) (by omega) (by omega) ?_ <;> try ((first | refine T_iincN (b := 1) (pc1 := 29) (pc := 26) k_Wr_weighByThought_26 rfl rfl (by decide) ?_ | refine T_iinc (v := (nI 1)) (pc1 := 29) (pc := 26) k_Wr_weighByThought_26 rfl rfl (by decide) ?_) <;> try (refine T_goto (tgt := 2) (pc := 29) k_Wr_weighByThought_29 rfl ?_))))))))))))
        | refine T_getV (pc1 := 7) (pc := 4) k_Wr_weighByThought_4 rfl f_Wr_107 rfl (by first | assumption | exact ga G (by decide) rfl | exact lgA LG (by omega)) (by first | assumption | (simp (disch := omega) only [pI_eq, pI_row, pI_col, va_up_self, va_up_ne, ne_eq, not_false_eq_true] <;> rfl) | rfl) ?_
        | (with_reducible refine T_icmp_geN (tgt := 32) (pc1 := 10) (pc := 7) k_Wr_weighByThought_7 (by decide) (by decide) (by omega) (by omega) (fun hc => ?_) (fun hc => ?_) <;> first | (exfalso; omega) | skip)
        | refine T_icmp_ge_t (tgt := 32) (pc := 7) k_Wr_weighByThought_7 rfl (by decide) ?_
        | refine T_icmp_ge_f (tgt := 32) (pc1 := 10) (pc := 7) k_Wr_weighByThought_7 rfl rfl (by decide) ?_
        | refine T_icmp_ge (tgt := 32) (pc1 := 10) (pc := 7) k_Wr_weighByThought_7 rfl rfl (fun hc => ?_) (fun hc => ?_)
        | refine T_getR (pc1 := 14) (pc := 11) k_Wr_weighByThought_11 rfl f_Wr_9 rfl (by first | assumption | exact ga G (by decide) rfl | exact lgA LG (by omega)) (by first | assumption | exact gr G (by decide) rfl | exact lgR LG (by omega)) ?_
        | refine T_iload_n (pc1 := 15) (pc := 14) k_Wr_weighByThought_14 rfl rfl ?_
        | refine T_aload_n (pc1 := 16) (pc := 15) k_Wr_weighByThought_15 rfl rfl ?_
        | refine T_aload_nN (pc1 := 16) (pc := 15) k_Wr_weighByThought_15 rfl rfl ?_
        | refine T_aload_n (pc1 := 17) (pc := 16) k_Wr_weighByThought_16 rfl rfl ?_
        | refine T_aload_nN (pc1 := 17) (pc := 16) k_Wr_weighByThought_16 rfl rfl ?_
        | refine T_getR (pc1 := 20) (pc := 17) k_Wr_weighByThought_17 rfl f_Wr_66 rfl (by first | assumption | exact ga G (by decide) rfl | exact lgA LG (by omega)) (by first | assumption | exact gr G (by decide) rfl | exact lgR LG (by omega)) ?_
        | refine T_iload_n (pc1 := 21) (pc := 20) k_Wr_weighByThought_20 rfl rfl ?_
        | refine T_aaldQ (e0 := 4) (pc1 := 22) (pc := 21) k_Wr_weighByThought_21 rfl (by first | assumption | exact ga G (by decide) rfl | exact lgA LG (by omega)) (by decide) (by omega) (by omega) (by first | assumption | exact gr G (by decide) rfl | exact lgR LG (by omega)) ?_
        | refine T_aaldQ (e0 := 0) (pc1 := 22) (pc := 21) k_Wr_weighByThought_21 rfl (by first | assumption | exact ga G (by decide) rfl | exact lgA LG (by omega)) (by decide) (by omega) (by omega) (by first | assumption | exact gr G (by decide) rfl | exact lgR LG (by omega)) ?_
        | refine T_aaldQ (e0 := 1) (pc1 := 22) (pc := 21) k_Wr_weighByThought_21 rfl (by first | assumption | exact ga G (by decide) rfl | exact lgA LG (by omega)) (by decide) (by omega) (by omega) (by first | assumption | exact gr G (by decide) rfl | exact lgR LG (by omega)) ?_
        | refine T_aaldQ (e0 := 2) (pc1 := 22) (pc := 21) k_Wr_weighByThought_21 rfl (by first | assumption | exact ga G (by decide) rfl | exact lgA LG (by omega)) (by decide) (by omega) (by omega) (by first | assumption | exact gr G (by decide) rfl | exact lgR LG (by omega)) ?_
        | refine T_aaldQ (e0 := 3) (pc1 := 22) (pc := 21) k_Wr_weighByThought_21 rfl (by first | assumption | exact ga G (by decide) rfl | exact lgA LG (by omega)) (by decide) (by omega) (by omega) (by first | assumption | exact gr G (by decide) rfl | exact lgR LG (by omega)) ?_
        | (refine T_cV (As := [_]) (d1 := 4) (pc1 := 25) (pc := 22) k_Wr_weighByThought_22 rfl (by decide) (Nat.le_of_ble_eq_true rfl) rfl o_La_thinks l_Wr_103 rfl (by first | assumption | exact ga G (by decide) rfl | exact lgA LG (by omega)) rfl (c_La_thinksN LG ok LT2 LB2 hbn (fun J2 hJ2 => ?_)) <;> try dsimp only [psh])
        | refine T_iastN (pc1 := 26) (pc := 25) k_Wr_weighByThought_25 rfl (by first | assumption | exact ga G (by decide) rfl | exact lgA LG (by omega)) (by omega) (by omega) ?_
        | refine T_iincN (b := 1) (pc1 := 29) (pc := 26) k_Wr_weighByThought_26 rfl rfl (by decide) ?_
        | refine T_iinc (v := (nI 1)) (pc1 := 29) (pc := 26) k_Wr_weighByThought_26 rfl rfl (by decide) ?_
        | refine T_goto (tgt := 2) (pc := 29) k_Wr_weighByThought_29 rfl ?_)
      refine ih (b + 1) _ (by omega) (fr_pI (fr_tr hJ (fr_mono hJ2 (fun i hi => Or.inr hi))) (Or.inl rfl)) (fun j hj => ?_)
      by_cases h : j = b
      · subst h; exact pI_eq
      · rw [pI_col h, hJ2 64 (by unfold stk; omega)]; exact hv j (by omega)
  repeat' (first
    | (refine T_iconst (v := (nI 0)) (pc1 := 1) (pc := 0) k_Wr_weighByThought_0 rfl (by decide) ?_ <;> try (refine T_istore_n (pc1 := 2) (pc := 1) k_Wr_weighByThought_1 rfl (Nat.le_of_ble_eq_true rfl) ?_))
    | refine T_istore_n (pc1 := 2) (pc := 1) k_Wr_weighByThought_1 rfl (Nat.le_of_ble_eq_true rfl) ?_)
  exact loop n 0 I (by omega) fr_rf (fun j hj => absurd hj (Nat.not_lt_zero _))
theorem brd_eq {N : Row} {n tn b k l : Nat} (h0 : bf N b 0 = nI k) (h3 : bf N b 3 = nI l) (hk : k < 6) (hl : l ≤ 99) : brV k l (N 3) = brd N b := by
  unfold brV brd
  rw [h0, h3, nI_clamp (by omega), nI_clamp (by omega)]
theorem c_B_brd {a n tn b : Nat} {N : Row} (LG : LandG g a) (ok : okL N n tn) (LB : LBt I a N n) (hb : b < n) (kt : brd N b = true → K (some (.int (nI 1))) g I) (kf : brd N b = false → K (some (.int (nI 0))) g I) : Cl 2 M_B_isBarred [.ref (a + 6 + b), .int (N 3)] g I K := by
  have h14 := ok.2.1
  obtain ⟨k, o, t, l, r, h0, hk, -, -, -, -, -, h3, hl1, hl2, -⟩ := ok.2.2.2.2.1 b hb
  have e := brd_eq (n := n) (tn := tn) h0 h3 hk hl2
  exact c_B_isBarred (lgA LG (by omega)) ((LB.2.2.2 b hb 0 (by decide)).trans h0) hk ((LB.2.2.2 b hb 3 (by decide)).trans h3) hl2 ok.2.2.2.2.2.2.1 (fun q => kt (by rw [← e]; exact q)) (fun q => kf (by rw [← e]; exact q))
theorem c_Wr_weighByMinutes {a n tn : Nat} {N : Row} {w : Int32} (G : GeoOK g) (LG : LandG g a) (ok : okL N n tn) (LT : LTx g I a N tn) (LB : LBt I a N n) (kk : ∀ J, fre cf I J → (∀ b, b < n → J 64 b = nI (bcs N tn w b)) → K none g J) : Cl 5 M_Wr_weighByMinutes [.ref 63, .ref a, .int w] g I K := by
  show Rl 5 M_Wr_weighByMinutes 0 [some (.ref 63), some (.ref a), some (.int w), none, none] [] g I K
  have h14 := ok.2.1
  obtain ⟨g1, g2, g3, g4, g5, g6, g7, g8, g9, g10, g11, g12, g13, g14⟩ := id LG
  have loop : ∀ q b o4 (J : IM), b + q = n → fre cf I J → (∀ j, j < b → J 64 j = nI (bcs N tn w j)) → Rl 5 M_Wr_weighByMinutes 2 [some (.ref 63), some (.ref a), some (.int w), some (.int (nI b)), o4] [] g J K := by
    intro q
    induction q with
    | zero =>
      intro b o4 J hb hJ hv
      have hb : b = n := by omega
      subst hb
      have LB2 := LBt_fr LB h14 hJ (fun i => cf_l g14)
      have c1 := LB2.1
      repeat' (first
        | (refine T_iload_n (pc1 := 3) (pc := 2) k_Wr_weighByMinutes_2 rfl rfl ?_ <;> try ((first | refine T_aload_n (pc1 := 4) (pc := 3) k_Wr_weighByMinutes_3 rfl rfl ?_ | refine T_aload_nN (pc1 := 4) (pc := 3) k_Wr_weighByMinutes_3 rfl rfl ?_) <;> try (refine T_getV (pc1 := 7) (pc := 4) k_Wr_weighByMinutes_4 rfl f_Wr_107 rfl (by first | assumption | exact ga G (by decide) rfl | exact lgA LG (by omega)) (by first | assumption | (simp (disch := omega) only [pI_eq, pI_row, pI_col, va_up_self, va_up_ne, ne_eq, not_false_eq_true] <;> rfl) | rfl) ?_ <;> try ((first | (with_reducible refine T_icmp_geN (tgt := 57) (pc1 := 10) (pc := 7) k_Wr_weighByMinutes_7 (by decide) (by decide) (by omega) (by omega) (fun hc => ?_) (fun hc => ?_) <;> first | (exfalso; omega) | skip) | refine T_icmp_ge_t (tgt := 57) (pc := 7) k_Wr_weighByMinutes_7 rfl (by decide) ?_ | refine T_icmp_ge_f (tgt := 57) (pc1 := 10) (pc := 7) k_Wr_weighByMinutes_7 rfl rfl (by decide) ?_ | refine T_icmp_ge (tgt := 57) (pc1 := 10) (pc := 7) k_Wr_weighByMinutes_7 rfl rfl (fun hc => ?_) (fun hc => ?_))))))
        | (refine T_retV (pc := 57) k_Wr_weighByMinutes_57 rfl ?_)
        | refine T_aload_n (pc1 := 4) (pc := 3) k_Wr_weighByMinutes_3 rfl rfl ?_
        | refine T_aload_nN (pc1 := 4) (pc := 3) k_Wr_weighByMinutes_3 rfl rfl ?_
        | refine T_getV (pc1 := 7) (pc := 4) k_Wr_weighByMinutes_4 rfl f_Wr_107 rfl (by first | assumption | exact ga G (by decide) rfl | exact lgA LG (by omega)) (by first | assumption | (simp (disch := omega) only [pI_eq, pI_row, pI_col, va_up_self, va_up_ne, ne_eq, not_false_eq_true] <;> rfl) | rfl) ?_
        | (with_reducible refine T_icmp_geN (tgt := 57) (pc1 := 10) (pc := 7) k_Wr_weighByMinutes_7 (by decide) (by decide) (by omega) (by omega) (fun hc => ?_) (fun hc => ?_) <;> first | (exfalso; omega) | skip)
        | refine T_icmp_ge_t (tgt := 57) (pc := 7) k_Wr_weighByMinutes_7 rfl (by decide) ?_
        | refine T_icmp_ge_f (tgt := 57) (pc1 := 10) (pc := 7) k_Wr_weighByMinutes_7 rfl rfl (by decide) ?_
        | refine T_icmp_ge (tgt := 57) (pc1 := 10) (pc := 7) k_Wr_weighByMinutes_7 rfl rfl (fun hc => ?_) (fun hc => ?_))
      exact kk J hJ hv
    | succ q ih =>
      intro b o4 J hb hJ hv
      have hbn : b < n := by omega
      have LB2 := LBt_fr LB h14 hJ (fun i => cf_l g14)
      have LT2 := LTx_cf LT hJ (fun i => cf_l g14) (fun i => cf_s)
      have c1 := LB2.1
      have c2 := LB2.2.1
      have nx1 : ∀ (J2 : IM) (v : Int32) o4, fre cf I J2 → (∀ j, j < b → J2 64 j = nI (bcs N tn w j)) → v = nI (bcs N tn w b) → Rl 5 M_Wr_weighByMinutes 2 [some (.ref 63), some (.ref a), some (.int w), some (.int (nI (b + 1))), o4] [] g (pI J2 64 b v) K := by
        intro J2 v o4 h1 h2 h3
        refine ih (b + 1) _ _ (by omega) (fr_pI h1 (Or.inl rfl)) (fun j hj => ?_)
        by_cases h : j = b
        · subst h; rw [pI_eq]; exact h3
        · rw [pI_col h]; exact h2 j (by omega)
      refine T_iload_n (pc1 := 3) (pc := 2) k_Wr_weighByMinutes_2 rfl rfl ?_
      repeat' (first
        | ((first | refine T_aload_n (pc1 := 4) (pc := 3) k_Wr_weighByMinutes_3 rfl rfl ?_ | refine T_aload_nN (pc1 := 4) (pc := 3) k_Wr_weighByMinutes_3 rfl rfl ?_) <;> try (refine T_getV (pc1 := 7) (pc := 4) k_Wr_weighByMinutes_4 rfl f_Wr_107 rfl (by first | assumption | exact ga G (by decide) rfl | exact lgA LG (by omega)) (by first | assumption | (simp (disch := omega) only [pI_eq, pI_row, pI_col, va_up_self, va_up_ne, ne_eq, not_false_eq_true] <;> rfl) | rfl) ?_ <;> try ((first | (with_reducible refine T_icmp_geN (tgt := 57) (pc1 := 10) (pc := 7) k_Wr_weighByMinutes_7 (by decide) (by decide) (by omega) (by omega) (fun hc => ?_) (fun hc => ?_) <;> first | (exfalso; omega) | skip) | refine T_icmp_ge_t (tgt := 57) (pc := 7) k_Wr_weighByMinutes_7 rfl (by decide) ?_ | refine T_icmp_ge_f (tgt := 57) (pc1 := 10) (pc := 7) k_Wr_weighByMinutes_7 rfl rfl (by decide) ?_ | refine T_icmp_ge (tgt := 57) (pc1 := 10) (pc := 7) k_Wr_weighByMinutes_7 rfl rfl (fun hc => ?_) (fun hc => ?_)))))
        | ((first | refine T_aload_n (pc1 := 11) (pc := 10) k_Wr_weighByMinutes_10 rfl rfl ?_ | refine T_aload_nN (pc1 := 11) (pc := 10) k_Wr_weighByMinutes_10 rfl rfl ?_) <;> try (refine T_getR (pc1 := 14) (pc := 11) k_Wr_weighByMinutes_11 rfl f_Wr_66 rfl (by first | assumption | exact ga G (by decide) rfl | exact lgA LG (by omega)) (by first | assumption | exact gr G (by decide) rfl | exact lgR LG (by omega)) ?_ <;> try (refine T_iload_n (pc1 := 15) (pc := 14) k_Wr_weighByMinutes_14 rfl rfl ?_ <;> try ((first | refine T_aaldQ (e0 := 4) (pc1 := 16) (pc := 15) k_Wr_weighByMinutes_15 rfl (by first | assumption | exact ga G (by decide) rfl | exact lgA LG (by omega)) (by decide) (by omega) (by omega) (by first | assumption | exact gr G (by decide) rfl | exact lgR LG (by omega)) ?_ | refine T_aaldQ (e0 := 0) (pc1 := 16) (pc := 15) k_Wr_weighByMinutes_15 rfl (by first | assumption | exact ga G (by decide) rfl | exact lgA LG (by omega)) (by decide) (by omega) (by omega) (by first | assumption | exact gr G (by decide) rfl | exact lgR LG (by omega)) ?_ | refine T_aaldQ (e0 := 1) (pc1 := 16) (pc := 15) k_Wr_weighByMinutes_15 rfl (by first | assumption | exact ga G (by decide) rfl | exact lgA LG (by omega)) (by decide) (by omega) (by omega) (by first | assumption | exact gr G (by decide) rfl | exact lgR LG (by omega)) ?_ | refine T_aaldQ (e0 := 2) (pc1 := 16) (pc := 15) k_Wr_weighByMinutes_15 rfl (by first | assumption | exact ga G (by decide) rfl | exact lgA LG (by omega)) (by decide) (by omega) (by omega) (by first | assumption | exact gr G (by decide) rfl | exact lgR LG (by omega)) ?_ | refine T_aaldQ (e0 := 3) (pc1 := 16) (pc := 15) k_Wr_weighByMinutes_15 rfl (by first | assumption | exact ga G (by decide) rfl | exact lgA LG (by omega)) (by decide) (by omega) (by omega) (by first | assumption | exact gr G (by decide) rfl | exact lgR LG (by omega)) ?_) <;> try ((first | refine T_astore (pc1 := 18) (pc := 16) k_Wr_weighByMinutes_16 rfl (Nat.le_of_ble_eq_true rfl) ?_ | refine T_astoreN (pc1 := 18) (pc := 16) k_Wr_weighByMinutes_16 rfl (Nat.le_of_ble_eq_true rfl) ?_) <;> try ((first | refine T_aload_n (pc1 := 19) (pc := 18) k_Wr_weighByMinutes_18 rfl rfl ?_ | refine T_aload_nN (pc1 := 19) (pc := 18) k_Wr_weighByMinutes_18 rfl rfl ?_) <;> try (refine T_getR (pc1 := 22) (pc := 19) k_Wr_weighByMinutes_19 rfl f_Wr_9 rfl (by first | assumption | exact ga G (by decide) rfl | exact lgA LG (by omega)) (by first | assumption | exact gr G (by decide) rfl | exact lgR LG (by omega)) ?_ <;> try (refine T_iload_n (pc1 := 23) (pc := 22) k_Wr_weighByMinutes_22 rfl rfl ?_ <;> try (refine T_iload_n (pc1 := 24) (pc := 23) k_Wr_weighByMinutes_23 rfl rfl ?_ <;> try (refine T_iload_n (pc1 := 25) (pc := 24) k_Wr_weighByMinutes_24 rfl rfl ?_ <;> try ((first | (with_reducible refine T_icmp_eqN (tgt := 40) (pc1 := 28) (pc := 25) k_Wr_weighByMinutes_25 (by decide) (by decide) (by omega) (by omega) (fun hc => ?_) (fun hc => ?_) <;> first | (exfalso; omega) | skip) | refine T_icmp_eq_t (tgt := 40) (pc := 25) k_Wr_weighByMinutes_25 rfl (by decide) ?_ | refine T_icmp_eq_f (tgt := 40) (pc1 := 28) (pc := 25) k_Wr_weighByMinutes_25 rfl rfl (by decide) ?_ | refine T_icmp_eq (tgt := 40) (pc1 := 28) (pc := 25) k_Wr_weighByMinutes_25 rfl rfl (fun hc => ?_) (fun hc => ?_)))))))))))))
        | ((first | refine T_aload (pc1 := 30) (pc := 28) k_Wr_weighByMinutes_28 rfl rfl ?_ | refine T_aloadN (pc1 := 30) (pc := 28) k_Wr_weighByMinutes_28 rfl rfl ?_) <;> try ((first | refine T_aload_n (pc1 := 31) (pc := 30) k_Wr_weighByMinutes_30 rfl rfl ?_ | refine T_aload_nN (pc1 := 31) (pc := 30) k_Wr_weighByMinutes_30 rfl rfl ?_) <;> try (refine T_getV (pc1 := 34) (pc := 31) k_Wr_weighByMinutes_31 rfl f_Wr_70 rfl (by first | assumption | exact ga G (by decide) rfl | exact lgA LG (by omega)) (by first | assumption | (simp (disch := omega) only [pI_eq, pI_row, pI_col, va_up_self, va_up_ne, ne_eq, not_false_eq_true] <;> rfl) | rfl) ?_ <;> try ((refine T_cV (As := [_]) (d1 := 2) (pc1 := 37) (pc := 34) k_Wr_weighByMinutes_34 rfl (by decide) (Nat.le_of_ble_eq_true rfl) rfl o_B_isBarred l_Wr_73 rfl (by first | assumption | exact ga G (by decide) rfl | exact lgA LG (by omega)) rfl (c_B_brd LG ok LB2 hbn (fun hb1 => ?_) (fun hb1 => ?_)) <;> try dsimp only [psh]) <;> try ((first | (with_reducible refine T_if_eqN (tgt := 44) (pc1 := 40) (pc := 37) k_Wr_weighByMinutes_37 (by decide) (by decide) (by omega) (fun hc => ?_) (fun hc => ?_) <;> first | (exfalso; omega) | skip) | refine T_if_eq_t (tgt := 44) (pc := 37) k_Wr_weighByMinutes_37 rfl (by decide) ?_ | refine T_if_eq_f (tgt := 44) (pc1 := 40) (pc := 37) k_Wr_weighByMinutes_37 rfl rfl (by decide) ?_ | refine T_if_eq (tgt := 44) (pc1 := 40) (pc := 37) k_Wr_weighByMinutes_37 rfl rfl (fun hc => ?_) (fun hc => ?_)))))))
        | (refine T_iconst (v := (nI 0)) (pc1 := 41) (pc := 40) k_Wr_weighByMinutes_40 rfl (by decide) ?_ <;> try (refine T_goto (tgt := 50) (pc := 41) k_Wr_weighByMinutes_41 rfl ?_))
        | ((first | refine T_aload_n (pc1 := 45) (pc := 44) k_Wr_weighByMinutes_44 rfl rfl ?_ | refine T_aload_nN (pc1 := 45) (pc := 44) k_Wr_weighByMinutes_44 rfl rfl ?_) <;> try ((first | refine T_aload (pc1 := 47) (pc := 45) k_Wr_weighByMinutes_45 rfl rfl ?_ | refine T_aloadN (pc1 := 47) (pc := 45) k_Wr_weighByMinutes_45 rfl rfl ?_) <;> try ((refine T_cV (As := [_]) (d1 := 4) (pc1 := 50) (pc := 47) k_Wr_weighByMinutes_47 rfl (by decide) (Nat.le_of_ble_eq_true rfl) rfl o_La_takes l_Wr_83 rfl (by first | assumption | exact ga G (by decide) rfl | exact lgA LG (by omega)) rfl (c_La_takesN LG ok LT2 LB2 hbn (fun J2 hJ2 => ?_)) <;> try dsimp only [psh]))))
        | (refine T_iastN (pc1 := 51) (pc := 50) k_Wr_weighByMinutes_50 rfl (by first | assumption | exact ga G (by decide) rfl | exact lgA LG (by omega)) (by omega) (by omega) ?_ <;> try ((first | refine T_iincN (b := 1) (pc1 := 54) (pc := 51) k_Wr_weighByMinutes_51 rfl rfl (by decide) ?_ | refine T_iinc (v := (nI 1)) (pc1 := 54) (pc := 51) k_Wr_weighByMinutes_51 rfl rfl (by decide) ?_) <;> try (refine T_goto (tgt := 2) (pc := 54) k_Wr_weighByMinutes_54 rfl ?_)))
        | refine T_getV (pc1 := 7) (pc := 4) k_Wr_weighByMinutes_4 rfl f_Wr_107 rfl (by first | assumption | exact ga G (by decide) rfl | exact lgA LG (by omega)) (by first | assumption | (simp (disch := omega) only [pI_eq, pI_row, pI_col, va_up_self, va_up_ne, ne_eq, not_false_eq_true] <;> rfl) | rfl) ?_
        | (with_reducible refine T_icmp_geN (tgt := 57) (pc1 := 10) (pc := 7) k_Wr_weighByMinutes_7 (by decide) (by decide) (by omega) (by omega) (fun hc => ?_) (fun hc => ?_) <;> first | (exfalso; omega) | skip)
        | refine T_icmp_ge_t (tgt := 57) (pc := 7) k_Wr_weighByMinutes_7 rfl (by decide) ?_
        | refine T_icmp_ge_f (tgt := 57) (pc1 := 10) (pc := 7) k_Wr_weighByMinutes_7 rfl rfl (by decide) ?_
        | refine T_icmp_ge (tgt := 57) (pc1 := 10) (pc := 7) k_Wr_weighByMinutes_7 rfl rfl (fun hc => ?_) (fun hc => ?_)
        | refine T_getR (pc1 := 14) (pc := 11) k_Wr_weighByMinutes_11 rfl f_Wr_66 rfl (by first | assumption | exact ga G (by decide) rfl | exact lgA LG (by omega)) (by first | assumption | exact gr G (by decide) rfl | exact lgR LG (by omega)) ?_
        | refine T_iload_n (pc1 := 15) (pc := 14) k_Wr_weighByMinutes_14 rfl rfl ?_
        | refine T_aaldQ (e0 := 4) (pc1 := 16) (pc := 15) k_Wr_weighByMinutes_15 rfl (by first | assumption | exact ga G (by decide) rfl | exact lgA LG (by omega)) (by decide) (by omega) (by omega) (by first | assumption | exact gr G (by decide) rfl | exact lgR LG (by omega)) ?_
        | refine T_aaldQ (e0 := 0) (pc1 := 16) (pc := 15) k_Wr_weighByMinutes_15 rfl (by first | assumption | exact ga G (by decide) rfl | exact lgA LG (by omega)) (by decide) (by omega) (by omega) (by first | assumption | exact gr G (by decide) rfl | exact lgR LG (by omega)) ?_
        | refine T_aaldQ (e0 := 1) (pc1 := 16) (pc := 15) k_Wr_weighByMinutes_15 rfl (by first | assumption | exact ga G (by decide) rfl | exact lgA LG (by omega)) (by decide) (by omega) (by omega) (by first | assumption | exact gr G (by decide) rfl | exact lgR LG (by omega)) ?_
        | refine T_aaldQ (e0 := 2) (pc1 := 16) (pc := 15) k_Wr_weighByMinutes_15 rfl (by first | assumption | exact ga G (by decide) rfl | exact lgA LG (by omega)) (by decide) (by omega) (by omega) (by first | assumption | exact gr G (by decide) rfl | exact lgR LG (by omega)) ?_
        | refine T_aaldQ (e0 := 3) (pc1 := 16) (pc := 15) k_Wr_weighByMinutes_15 rfl (by first | assumption | exact ga G (by decide) rfl | exact lgA LG (by omega)) (by decide) (by omega) (by omega) (by first | assumption | exact gr G (by decide) rfl | exact lgR LG (by omega)) ?_
        | refine T_astore (pc1 := 18) (pc := 16) k_Wr_weighByMinutes_16 rfl (Nat.le_of_ble_eq_true rfl) ?_
        | refine T_astoreN (pc1 := 18) (pc := 16) k_Wr_weighByMinutes_16 rfl (Nat.le_of_ble_eq_true rfl) ?_
        | refine T_aload_n (pc1 := 19) (pc := 18) k_Wr_weighByMinutes_18 rfl rfl ?_
        | refine T_aload_nN (pc1 := 19) (pc := 18) k_Wr_weighByMinutes_18 rfl rfl ?_
        | refine T_getR (pc1 := 22) (pc := 19) k_Wr_weighByMinutes_19 rfl f_Wr_9 rfl (by first | assumption | exact ga G (by decide) rfl | exact lgA LG (by omega)) (by first | assumption | exact gr G (by decide) rfl | exact lgR LG (by omega)) ?_
        | refine T_iload_n (pc1 := 23) (pc := 22) k_Wr_weighByMinutes_22 rfl rfl ?_
        | refine T_iload_n (pc1 := 24) (pc := 23) k_Wr_weighByMinutes_23 rfl rfl ?_
        | refine T_iload_n (pc1 := 25) (pc := 24) k_Wr_weighByMinutes_24 rfl rfl ?_
        | (with_reducible refine T_icmp_eqN (tgt := 40) (pc1 := 28) (pc := 25) k_Wr_weighByMinutes_25 (by decide) (by decide) (by omega) (by omega) (fun hc => ?_) (fun hc => ?_) <;> first | (exfalso; omega) | skip)
        | refine T_icmp_eq_t (tgt := 40) (pc := 25) k_Wr_weighByMinutes_25 rfl (by decide) ?_
        | refine T_icmp_eq_f (tgt := 40) (pc1 := 28) (pc := 25) k_Wr_weighByMinutes_25 rfl rfl (by decide) ?_
        | refine T_icmp_eq (tgt := 40) (pc1 := 28) (pc := 25) k_Wr_weighByMinutes_25 rfl rfl (fun hc => ?_) (fun hc => ?_)
        | refine T_aload_n (pc1 := 31) (pc := 30) k_Wr_weighByMinutes_30 rfl rfl ?_
        | refine T_aload_nN (pc1 := 31) (pc := 30) k_Wr_weighByMinutes_30 rfl rfl ?_
        | refine T_getV (pc1 := 34) (pc := 31) k_Wr_weighByMinutes_31 rfl f_Wr_70 rfl (by first | assumption | exact ga G (by decide) rfl | exact lgA LG (by omega)) (by first | assumption | (simp (disch := omega) only [pI_eq, pI_row, pI_col, va_up_self, va_up_ne, ne_eq, not_false_eq_true] <;> rfl) | rfl) ?_
        | (refine T_cV (As := [_]) (d1 := 2) (pc1 := 37) (pc := 34) k_Wr_weighByMinutes_34 rfl (by decide) (Nat.le_of_ble_eq_true rfl) rfl o_B_isBarred l_Wr_73 rfl (by first | assumption | exact ga G (by decide) rfl | exact lgA LG (by omega)) rfl (c_B_brd LG ok LB2 hbn (fun hb1 => ?_) (fun hb1 => ?_)) <;> try dsimp only [psh])
        | (with_reducible refine T_if_eqN (tgt := 44) (pc1 := 40) (pc := 37) k_Wr_weighByMinutes_37 (by decide) (by decide) (by omega) (fun hc => ?_) (fun hc => ?_) <;> first | (exfalso; omega) | skip)
        | refine T_if_eq_t (tgt := 44) (pc := 37) k_Wr_weighByMinutes_37 rfl (by decide) ?_
        | refine T_if_eq_f (tgt := 44) (pc1 := 40) (pc := 37) k_Wr_weighByMinutes_37 rfl rfl (by decide) ?_
        | refine T_if_eq (tgt := 44) (pc1 := 40) (pc := 37) k_Wr_weighByMinutes_37 rfl rfl (fun hc => ?_) (fun hc => ?_)
        | refine T_goto (tgt := 50) (pc := 41) k_Wr_weighByMinutes_41 rfl ?_
        | refine T_aload (pc1 := 47) (pc := 45) k_Wr_weighByMinutes_45 rfl rfl ?_
        | refine T_aloadN (pc1 := 47) (pc := 45) k_Wr_weighByMinutes_45 rfl rfl ?_
        | (refine T_cV (As := [_]) (d1 := 4) (pc1 := 50) (pc := 47) k_Wr_weighByMinutes_47 rfl (by decide) (Nat.le_of_ble_eq_true rfl) rfl o_La_takes l_Wr_83 rfl (by first | assumption | exact ga G (by decide) rfl | exact lgA LG (by omega)) rfl (c_La_takesN LG ok LT2 LB2 hbn (fun J2 hJ2 => ?_)) <;> try dsimp only [psh])
        | refine T_iincN (b := 1) (pc1 := 54) (pc := 51) k_Wr_weighByMinutes_51 rfl rfl (by decide) ?_
        | refine T_iinc (v := (nI 1)) (pc1 := 54) (pc := 51) k_Wr_weighByMinutes_51 rfl rfl (by decide) ?_
        | refine T_goto (tgt := 2) (pc := 54) k_Wr_weighByMinutes_54 rfl ?_)
      all_goals first | exact nx1 J _ _ hJ hv (by rw [bcs, if_pos (Or.inl (by assumption))]) | exact nx1 J _ _ hJ hv (by rw [bcs, if_pos (Or.inr hb1)]) | exact nx1 J2 _ _ (fr_tr hJ (fr_mono hJ2 (fun i hi => Or.inr hi))) (fun j hj => by rw [hJ2 64 (by unfold stk; omega)]; exact hv j hj) (by rw [bcs, if_neg (fun q => by rcases q with q | q; exact absurd q (by assumption); rw [hb1] at q; cases q)])
  repeat' (first
    | (refine T_iconst (v := (nI 0)) (pc1 := 1) (pc := 0) k_Wr_weighByMinutes_0 rfl (by decide) ?_ <;> try (refine T_istore_n (pc1 := 2) (pc := 1) k_Wr_weighByMinutes_1 rfl (Nat.le_of_ble_eq_true rfl) ?_))
    | refine T_istore_n (pc1 := 2) (pc := 1) k_Wr_weighByMinutes_1 rfl (Nat.le_of_ble_eq_true rfl) ?_)
  exact loop n 0 _ I (by omega) fr_rf (fun j hj => absurd hj (Nat.not_lt_zero _))
end C4
