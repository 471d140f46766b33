/-! The class's call: text. -/
section PT2
theorem TxR_tAdd {g : Geo} {I : IM} {N : Row} {n tn key t q : Nat} {p : PS} (ok : okL N n tn) (h : TxR g I N t q) (ht : t < tn) : TxR g I (tAdd N tn key p) t q := by
  obtain ⟨key', lv, m, b1, b2, b3, b4, b5, b6, b7⟩ := ok.2.2.2.2.2.1 t ht
  obtain ⟨h1, h2, h3, h4, h5, h6, h7, h8, h9, h10⟩ := h
  refine ⟨h1, h2, h3, h4, h5, ?_, ?_, ?_, ?_, ?_⟩
  · rw [tAdd_lo (by omega) (by omega)]; exact h6
  · rw [tAdd_lo (by omega) (by omega)]; exact h7
  · rw [tAdd_lo (by omega) (by omega)]; exact h8
  · rw [tAdd_lo (by omega) (by omega)]; exact h9
  · rw [tAdd_lo (by omega) (by omega)]
    intro k hk
    have hk2 : k < m := by rw [b5, nI_clamp (by omega)] at hk; exact hk
    rw [tAdd_cod ht k (by omega)]
    exact h10 k hk
def txf (i : Nat) : Prop := i = 66 ∨ i = 69 ∨ i = 67 ∨ lnd 1 i
theorem okW_tAdd {N : Row} {t key : Nat} {p : PS} (okw : okW N) : okW (tAdd N t key p) := okW_agr okw (tAdd_lo (by omega) (by decide)) (tAdd_lo (by omega) (by decide)) (fun i hi => tAdd_lo (by omega) (by omega))
end PT2
section S8
variable {g : Geo} {I : IM} {K : Option Value → Geo → IM → Prop}
theorem c_La_addText {q tn key : Nat} (G : GeoOK g) (hA : isAg g q 6 4) (hk : I q 0 = nI key) (hk3 : key < 3) (ht : I 1 8 = nI tn) (h14 : tn < 14) (kk : K (some (.int (nI tn))) (gpR g 3 tn (some q)) (pI (pI I 4 key (nI tn)) 1 8 (nI (tn + 1)))) : Cl 1 M_La_addText [.ref 1, .ref q] g I K := by
  show Rl 1 M_La_addText 0 [some (.ref 1), some (.ref q)] [] g I K
  have LG := land_1 G
  have ct : (nI tn).toNatClampNeg = tn := nI_clamp (by omega)
  have G2 : GeoOK (gpR g 3 tn (some q)) := GS_G GS_p (Or.inl rfl) G
  repeat' (first
    | ((first | refine T_aload_n (pc1 := 1) (pc := 0) k_La_addText_0 rfl rfl ?_ | refine T_aload_nN (pc1 := 1) (pc := 0) k_La_addText_0 rfl rfl ?_) <;> try (refine T_getV (pc1 := 4) (pc := 1) k_La_addText_1 rfl f_La_42 rfl (by first | assumption | exact ga G (by decide) rfl | exact lgA LG (by omega)) (by first | assumption | (simp (disch := omega) only [pI_eq, pI_row, pI_col, va_up_self, va_up_ne, ne_eq, not_false_eq_true] <;> rfl) | rfl) ?_ <;> try (refine T_bipush (v := (nI 14)) (pc1 := 6) (pc := 4) k_La_addText_4 rfl (by decide) ?_ <;> try ((first | (with_reducible refine T_icmp_ltN (tgt := 12) (pc1 := 9) (pc := 6) k_La_addText_6 (by decide) (by decide) (by omega) (by omega) (fun hc => ?_) (fun hc => ?_) <;> first | (exfalso; omega) | skip) | refine T_icmp_lt_t (tgt := 12) (pc := 6) k_La_addText_6 rfl (by decide) ?_ | refine T_icmp_lt_f (tgt := 12) (pc1 := 9) (pc := 6) k_La_addText_6 rfl rfl (by decide) ?_ | refine T_icmp_lt (tgt := 12) (pc1 := 9) (pc := 6) k_La_addText_6 rfl rfl (fun hc => ?_) (fun hc => ?_))))))
    | (refine T_ldc (v := (-1000000003)) (pc1 := 11) (pc := 9) k_La_addText_9 rfl c_La_75 ?_ <;> try (refine T_retI (pc := 11) k_La_addText_11 rfl (by first | rfl | decide | assumption) ?_))
    | ((first | refine T_aload_n (pc1 := 13) (pc := 12) k_La_addText_12 rfl rfl ?_ | refine T_aload_nN (pc1 := 13) (pc := 12) k_La_addText_12 rfl rfl ?_) <;> try (refine T_getR (pc1 := 16) (pc := 13) k_La_addText_13 rfl f_La_38 rfl (by first | assumption | exact ga G (by decide) rfl | exact lgA LG (by omega)) (by first | assumption | exact gr G (by decide) rfl | exact lgR LG (by omega)) ?_ <;> try ((first | refine T_aload_n (pc1 := 17) (pc := 16) k_La_addText_16 rfl rfl ?_ | refine T_aload_nN (pc1 := 17) (pc := 16) k_La_addText_16 rfl rfl ?_) <;> try (refine T_getV (pc1 := 20) (pc := 17) k_La_addText_17 rfl f_La_42 rfl (by first | assumption | exact ga G (by decide) rfl | exact lgA LG (by omega)) (by first | assumption | (simp (disch := omega) only [pI_eq, pI_row, pI_col, va_up_self, va_up_ne, ne_eq, not_false_eq_true] <;> rfl) | rfl) ?_ <;> try ((first | refine T_aload_n (pc1 := 21) (pc := 20) k_La_addText_20 rfl rfl ?_ | refine T_aload_nN (pc1 := 21) (pc := 20) k_La_addText_20 rfl rfl ?_) <;> try ((refine T_aast (e0 := 1) (ci := 6) (pc1 := 22) (pc := 21) k_La_addText_21 rfl rfl (ga G (by decide) rfl) (vp_in_nI (by omega) (by omega)) hA ?_; rw [ct])))))))
    | (refine T_getR (pc1 := 26) (pc := 23) k_La_addText_23 rfl f_La_46 rfl (by first | assumption | exact ga G (by decide) rfl | exact lgA LG (by omega)) (by first | assumption | exact gr G (by decide) rfl | exact lgR LG (by omega)) ?_ <;> try ((first | refine T_aload_n (pc1 := 27) (pc := 26) k_La_addText_26 rfl rfl ?_ | refine T_aload_nN (pc1 := 27) (pc := 26) k_La_addText_26 rfl rfl ?_) <;> try (refine T_getV (pc1 := 30) (pc := 27) k_La_addText_27 rfl f_La_89 rfl (by first | assumption | exact ga G (by decide) rfl | exact lgA LG (by omega)) (by first | assumption | (simp (disch := omega) only [pI_eq, pI_row, pI_col, va_up_self, va_up_ne, ne_eq, not_false_eq_true] <;> rfl) | rfl) ?_ <;> try ((first | refine T_aload_n (pc1 := 31) (pc := 30) k_La_addText_30 rfl rfl ?_ | refine T_aload_nN (pc1 := 31) (pc := 30) k_La_addText_30 rfl rfl ?_) <;> try (refine T_getV (pc1 := 34) (pc := 31) k_La_addText_31 rfl f_La_42 rfl (by first | assumption | exact ga G (by decide) rfl | exact lgA LG (by omega)) (by first | assumption | (simp (disch := omega) only [pI_eq, pI_row, pI_col, va_up_self, va_up_ne, ne_eq, not_false_eq_true] <;> rfl) | rfl) ?_ <;> try (refine T_iastN (pc1 := 35) (pc := 34) k_La_addText_34 rfl (by first | assumption | exact ga G (by decide) rfl | exact lgA LG (by omega)) (by omega) (by omega) ?_ <;> try ((first | refine T_aload_n (pc1 := 36) (pc := 35) k_La_addText_35 rfl rfl ?_ | refine T_aload_nN (pc1 := 36) (pc := 35) k_La_addText_35 rfl rfl ?_) <;> try (refine T_dup (pc1 := 37) (pc := 36) k_La_addText_36 rfl rfl ?_ <;> try (refine T_getV (pc1 := 40) (pc := 37) k_La_addText_37 rfl f_La_42 rfl (by first | assumption | exact ga G (by decide) rfl | exact lgA LG (by omega)) (by first | assumption | (simp (disch := omega) only [pI_eq, pI_row, pI_col, va_up_self, va_up_ne, ne_eq, not_false_eq_true] <;> rfl) | rfl) ?_ <;> try (refine T_iconst (v := (nI 1)) (pc1 := 41) (pc := 40) k_La_addText_40 rfl (by decide) ?_ <;> try ((first | with_reducible refine T_iaddN (pc1 := 42) (pc := 41) k_La_addText_41 (by decide) ?_ | refine T_iadd (pc1 := 42) (pc := 41) k_La_addText_41 rfl ?_) <;> try (refine T_putI (pc1 := 45) (pc := 42) k_La_addText_42 rfl f_La_42 rfl (by first | assumption | exact ga G (by decide) rfl | exact lgA LG (by omega)) (by first | rfl | decide | assumption) (by first | rfl | decide | assumption) ?_ <;> try ((first | refine T_aload_n (pc1 := 46) (pc := 45) k_La_addText_45 rfl rfl ?_ | refine T_aload_nN (pc1 := 46) (pc := 45) k_La_addText_45 rfl rfl ?_) <;> try (refine T_getV (pc1 := 49) (pc := 46) k_La_addText_46 rfl f_La_42 rfl (by first | assumption | exact ga G (by decide) rfl | exact lgA LG (by omega)) (by first | assumption | (simp (disch := omega) only [pI_eq, pI_row, pI_col, va_up_self, va_up_ne, ne_eq, not_false_eq_true] <;> rfl) | rfl) ?_))))))))))))))
    | (refine T_iconst (v := (nI 1)) (pc1 := 50) (pc := 49) k_La_addText_49 rfl (by decide) ?_ <;> try ((first | with_reducible refine T_isubN (pc1 := 51) (pc := 50) k_La_addText_50 (by decide) (by omega) ?_ | refine T_isub (pc1 := 51) (pc := 50) k_La_addText_50 rfl ?_) <;> try (refine T_retI (pc := 51) k_La_addText_51 rfl (by first | rfl | decide | assumption) ?_)))
    | refine T_getV (pc1 := 4) (pc := 1) k_La_addText_1 rfl f_La_42 rfl (by first | assumption | exact ga G (by decide) rfl | exact lgA LG (by omega)) (by first | assumption | (simp (disch := omega) only [pI_eq, pI_row, pI_col, va_up_self, va_up_ne, ne_eq, not_false_eq_true] <;> rfl) | rfl) ?_
    | refine T_bipush (v := (nI 14)) (pc1 := 6) (pc := 4) k_La_addText_4 rfl (by decide) ?_
    | (with_reducible refine T_icmp_ltN (tgt := 12) (pc1 := 9) (pc := 6) k_La_addText_6 (by decide) (by decide) (by omega) (by omega) (fun hc => ?_) (fun hc => ?_) <;> first | (exfalso; omega) | skip)
    | refine T_icmp_lt_t (tgt := 12) (pc := 6) k_La_addText_6 rfl (by decide) ?_
    | refine T_icmp_lt_f (tgt := 12) (pc1 := 9) (pc := 6) k_La_addText_6 rfl rfl (by decide) ?_
    | refine T_icmp_lt (tgt := 12) (pc1 := 9) (pc := 6) k_La_addText_6 rfl rfl (fun hc => ?_) (fun hc => ?_)
    | refine T_retI (pc := 11) k_La_addText_11 rfl (by first | rfl | decide | assumption) ?_
    | refine T_getR (pc1 := 16) (pc := 13) k_La_addText_13 rfl f_La_38 rfl (by first | assumption | exact ga G (by decide) rfl | exact lgA LG (by omega)) (by first | assumption | exact gr G (by decide) rfl | exact lgR LG (by omega)) ?_
    | refine T_aload_n (pc1 := 17) (pc := 16) k_La_addText_16 rfl rfl ?_
    | refine T_aload_nN (pc1 := 17) (pc := 16) k_La_addText_16 rfl rfl ?_
    | refine T_getV (pc1 := 20) (pc := 17) k_La_addText_17 rfl f_La_42 rfl (by first | assumption | exact ga G (by decide) rfl | exact lgA LG (by omega)) (by first | assumption | (simp (disch := omega) only [pI_eq, pI_row, pI_col, va_up_self, va_up_ne, ne_eq, not_false_eq_true] <;> rfl) | rfl) ?_
    | refine T_aload_n (pc1 := 21) (pc := 20) k_La_addText_20 rfl rfl ?_
    | refine T_aload_nN (pc1 := 21) (pc := 20) k_La_addText_20 rfl rfl ?_
    | (refine T_aast (e0 := 1) (ci := 6) (pc1 := 22) (pc := 21) k_La_addText_21 rfl rfl (ga G (by decide) rfl) (vp_in_nI (by omega) (by omega)) hA ?_; rw [ct])
    | refine T_aload_n (pc1 := 27) (pc := 26) k_La_addText_26 rfl rfl ?_
    | refine T_aload_nN (pc1 := 27) (pc := 26) k_La_addText_26 rfl rfl ?_
    | refine T_getV (pc1 := 30) (pc := 27) k_La_addText_27 rfl f_La_89 rfl (by first | assumption | exact ga G (by decide) rfl | exact lgA LG (by omega)) (by first | assumption | (simp (disch := omega) only [pI_eq, pI_row, pI_col, va_up_self, va_up_ne, ne_eq, not_false_eq_true] <;> rfl) | rfl) ?_
    | refine T_aload_n (pc1 := 31) (pc := 30) k_La_addText_30 rfl rfl ?_
    | refine T_aload_nN (pc1 := 31) (pc := 30) k_La_addText_30 rfl rfl ?_
    | refine T_getV (pc1 := 34) (pc := 31) k_La_addText_31 rfl f_La_42 rfl (by first | assumption | exact ga G (by decide) rfl | exact lgA LG (by omega)) (by first | assumption | (simp (disch := omega) only [pI_eq, pI_row, pI_col, va_up_self, va_up_ne, ne_eq, not_false_eq_true] <;> rfl) | rfl) ?_
    | refine T_iastN (pc1 := 35) (pc := 34) k_La_addText_34 rfl (by first | assumption | exact ga G (by decide) rfl | exact lgA LG (by omega)) (by omega) (by omega) ?_
    | refine T_aload_n (pc1 := 36) (pc := 35) k_La_addText_35 rfl rfl ?_
    | refine T_aload_nN (pc1 := 36) (pc := 35) k_La_addText_35 rfl rfl ?_
    | refine T_dup (pc1 := 37) (pc := 36) k_La_addText_36 rfl rfl ?_
    | refine T_getV (pc1 := 40) (pc := 37) k_La_addText_37 rfl f_La_42 rfl (by first | assumption | exact ga G (by decide) rfl | exact lgA LG (by omega)) (by first | assumption | (simp (disch := omega) only [pI_eq, pI_row, pI_col, va_up_self, va_up_ne, ne_eq, not_false_eq_true] <;> rfl) | rfl) ?_
    | refine T_iconst (v := (nI 1)) (pc1 := 41) (pc := 40) k_La_addText_40 rfl (by decide) ?_
    | with_reducible refine T_iaddN (pc1 := 42) (pc := 41) k_La_addText_41 (by decide) ?_
    | refine T_iadd (pc1 := 42) (pc := 41) k_La_addText_41 rfl ?_
    | refine T_putI (pc1 := 45) (pc := 42) k_La_addText_42 rfl f_La_42 rfl (by first | assumption | exact ga G (by decide) rfl | exact lgA LG (by omega)) (by first | rfl | decide | assumption) (by first | rfl | decide | assumption) ?_
    | refine T_aload_n (pc1 := 46) (pc := 45) k_La_addText_45 rfl rfl ?_
    | refine T_aload_nN (pc1 := 46) (pc := 45) k_La_addText_45 rfl rfl ?_
    | refine T_getV (pc1 := 49) (pc := 46) k_La_addText_46 rfl f_La_42 rfl (by first | assumption | exact ga G (by decide) rfl | exact lgA LG (by omega)) (by first | assumption | (simp (disch := omega) only [pI_eq, pI_row, pI_col, va_up_self, va_up_ne, ne_eq, not_false_eq_true] <;> rfl) | rfl) ?_
    | with_reducible refine T_isubN (pc1 := 51) (pc := 50) k_La_addText_50 (by decide) (by omega) ?_
    | refine T_isub (pc1 := 51) (pc := 50) k_La_addText_50 rfl ?_
    | refine T_retI (pc := 51) k_La_addText_51 rfl (by first | rfl | decide | assumption) ?_)
  all_goals try (exfalso; omega)
  have hA2 : isAg (gpR g 3 tn (some q)) q 6 4 := hA
  clear G
  have G := G2
  have LG := land_1 G
  repeat' (first
    | ((first | refine T_aload_n (pc1 := 23) (pc := 22) k_La_addText_22 rfl rfl ?_ | refine T_aload_nN (pc1 := 23) (pc := 22) k_La_addText_22 rfl rfl ?_) <;> try (refine T_getR (pc1 := 26) (pc := 23) k_La_addText_23 rfl f_La_46 rfl (by first | assumption | exact ga G (by decide) rfl | exact lgA LG (by omega)) (by first | assumption | exact gr G (by decide) rfl | exact lgR LG (by omega)) ?_ <;> try ((first | refine T_aload_n (pc1 := 27) (pc := 26) k_La_addText_26 rfl rfl ?_ | refine T_aload_nN (pc1 := 27) (pc := 26) k_La_addText_26 rfl rfl ?_) <;> try (refine T_getV (pc1 := 30) (pc := 27) k_La_addText_27 rfl f_La_89 rfl (by first | assumption | exact ga G (by decide) rfl | exact lgA LG (by omega)) (by first | assumption | (simp (disch := omega) only [pI_eq, pI_row, pI_col, va_up_self, va_up_ne, ne_eq, not_false_eq_true, hk, ht] <;> rfl) | rfl) ?_ <;> try ((first | refine T_aload_n (pc1 := 31) (pc := 30) k_La_addText_30 rfl rfl ?_ | refine T_aload_nN (pc1 := 31) (pc := 30) k_La_addText_30 rfl rfl ?_) <;> try (refine T_getV (pc1 := 34) (pc := 31) k_La_addText_31 rfl f_La_42 rfl (by first | assumption | exact ga G (by decide) rfl | exact lgA LG (by omega)) (by first | assumption | (simp (disch := omega) only [pI_eq, pI_row, pI_col, va_up_self, va_up_ne, ne_eq, not_false_eq_true, hk, ht] <;> rfl) | rfl) ?_ <;> try (refine T_iastN (pc1 := 35) (pc := 34) k_La_addText_34 rfl (by first | assumption | exact ga G (by decide) rfl | exact lgA LG (by omega)) (by omega) (by omega) ?_ <;> try ((first | refine T_aload_n (pc1 := 36) (pc := 35) k_La_addText_35 rfl rfl ?_ | refine T_aload_nN (pc1 := 36) (pc := 35) k_La_addText_35 rfl rfl ?_) <;> try (refine T_dup (pc1 := 37) (pc := 36) k_La_addText_36 rfl rfl ?_ <;> try (refine T_getV (pc1 := 40) (pc := 37) k_La_addText_37 rfl f_La_42 rfl (by first | assumption | exact ga G (by decide) rfl | exact lgA LG (by omega)) (by first | assumption | (simp (disch := omega) only [pI_eq, pI_row, pI_col, va_up_self, va_up_ne, ne_eq, not_false_eq_true, hk, ht] <;> rfl) | rfl) ?_ <;> try (refine T_iconst (v := (nI 1)) (pc1 := 41) (pc := 40) k_La_addText_40 rfl (by decide) ?_ <;> try ((first | with_reducible refine T_iaddN (pc1 := 42) (pc := 41) k_La_addText_41 (by decide) ?_ | refine T_iadd (pc1 := 42) (pc := 41) k_La_addText_41 rfl ?_) <;> try (refine T_putI (pc1 := 45) (pc := 42) k_La_addText_42 rfl f_La_42 rfl (by first | assumption | exact ga G (by decide) rfl | exact lgA LG (by omega)) (by first | rfl | decide | assumption) (by first | rfl | decide | assumption) ?_ <;> try ((first | refine T_aload_n (pc1 := 46) (pc := 45) k_La_addText_45 rfl rfl ?_ | refine T_aload_nN (pc1 := 46) (pc := 45) k_La_addText_45 rfl rfl ?_)))))))))))))))
    | (refine T_getV (pc1 := 49) (pc := 46) k_La_addText_46 rfl f_La_42 rfl (by first | assumption | exact ga G (by decide) rfl | exact lgA LG (by omega)) (by first | assumption | (simp (disch := omega) only [pI_eq, pI_row, pI_col, va_up_self, va_up_ne, ne_eq, not_false_eq_true, hk, ht] <;> rfl) | rfl) ?_ <;> try (refine T_iconst (v := (nI 1)) (pc1 := 50) (pc := 49) k_La_addText_49 rfl (by decide) ?_ <;> try ((first | with_reducible refine T_isubN (pc1 := 51) (pc := 50) k_La_addText_50 (by decide) (by omega) ?_ | refine T_isub (pc1 := 51) (pc := 50) k_La_addText_50 rfl ?_) <;> try (refine T_retI (pc := 51) k_La_addText_51 rfl (by first | rfl | decide | assumption) ?_))))
    | refine T_getR (pc1 := 26) (pc := 23) k_La_addText_23 rfl f_La_46 rfl (by first | assumption | exact ga G (by decide) rfl | exact lgA LG (by omega)) (by first | assumption | exact gr G (by decide) rfl | exact lgR LG (by omega)) ?_
    | refine T_aload_n (pc1 := 27) (pc := 26) k_La_addText_26 rfl rfl ?_
    | refine T_aload_nN (pc1 := 27) (pc := 26) k_La_addText_26 rfl rfl ?_
    | refine T_getV (pc1 := 30) (pc := 27) k_La_addText_27 rfl f_La_89 rfl (by first | assumption | exact ga G (by decide) rfl | exact lgA LG (by omega)) (by first | assumption | (simp (disch := omega) only [pI_eq, pI_row, pI_col, va_up_self, va_up_ne, ne_eq, not_false_eq_true, hk, ht] <;> rfl) | rfl) ?_
    | refine T_aload_n (pc1 := 31) (pc := 30) k_La_addText_30 rfl rfl ?_
    | refine T_aload_nN (pc1 := 31) (pc := 30) k_La_addText_30 rfl rfl ?_
    | refine T_getV (pc1 := 34) (pc := 31) k_La_addText_31 rfl f_La_42 rfl (by first | assumption | exact ga G (by decide) rfl | exact lgA LG (by omega)) (by first | assumption | (simp (disch := omega) only [pI_eq, pI_row, pI_col, va_up_self, va_up_ne, ne_eq, not_false_eq_true, hk, ht] <;> rfl) | rfl) ?_
    | refine T_iastN (pc1 := 35) (pc := 34) k_La_addText_34 rfl (by first | assumption | exact ga G (by decide) rfl | exact lgA LG (by omega)) (by omega) (by omega) ?_
    | refine T_aload_n (pc1 := 36) (pc := 35) k_La_addText_35 rfl rfl ?_
    | refine T_aload_nN (pc1 := 36) (pc := 35) k_La_addText_35 rfl rfl ?_
    | refine T_dup (pc1 := 37) (pc := 36) k_La_addText_36 rfl rfl ?_
    | refine T_getV (pc1 := 40) (pc := 37) k_La_addText_37 rfl f_La_42 rfl (by first | assumption | exact ga G (by decide) rfl | exact lgA LG (by omega)) (by first | assumption | (simp (disch := omega) only [pI_eq, pI_row, pI_col, va_up_self, va_up_ne, ne_eq, not_false_eq_true, hk, ht] <;> rfl) | rfl) ?_
    | refine T_iconst (v := (nI 1)) (pc1 := 41) (pc := 40) k_La_addText_40 rfl (by decide) ?_
    | with_reducible refine T_iaddN (pc1 := 42) (pc := 41) k_La_addText_41 (by decide) ?_
    | refine T_iadd (pc1 := 42) (pc := 41) k_La_addText_41 rfl ?_
    | refine T_putI (pc1 := 45) (pc := 42) k_La_addText_42 rfl f_La_42 rfl (by first | assumption | exact ga G (by decide) rfl | exact lgA LG (by omega)) (by first | rfl | decide | assumption) (by first | rfl | decide | assumption) ?_
    | refine T_aload_n (pc1 := 46) (pc := 45) k_La_addText_45 rfl rfl ?_
    | refine T_aload_nN (pc1 := 46) (pc := 45) k_La_addText_45 rfl rfl ?_
    | refine T_iconst (v := (nI 1)) (pc1 := 50) (pc := 49) k_La_addText_49 rfl (by decide) ?_
    | with_reducible refine T_isubN (pc1 := 51) (pc := 50) k_La_addText_50 (by decide) (by omega) ?_
    | refine T_isub (pc1 := 51) (pc := 50) k_La_addText_50 rfl ?_
    | refine T_retI (pc := 51) k_La_addText_51 rfl (by first | rfl | decide | assumption) ?_)
  rw [show tn + 1 - 1 = tn by omega]
  exact kk
set_option maxHeartbeats 4000000 in
theorem c_S_text {N T C0 : Row} {n tn z : Nat} (G : GeoOK g) (hF : g.1.2.2.category = 1) (okt : okTp T z) (ok : okL N n tn) (okw : okW N) (hL : LaR g I 1 N n tn) (hT : CT I T z) (hz : gz g ≤ 890) (hz3 : gz g % 3 = 1) (kk : ∀ g' J r tn', GeoOK g' → GX g g' → gz g' ≤ gz g + 3 → gz g' % 3 = 1 → gs g' ≤ gs g + 200 → okL (textN N tn T z C0) n tn' → okW (textN N tn T z C0) → LaR g' J 1 (textN N tn T z C0) n tn' → (∀ i, i < gz g → ¬ txf i → J i = I i) → J 67 1 = nI 0 → r = textA tn T z C0 → K (some (.int r)) g' J) : Cl 152 M_S_text [.ref 0] g I K := by
  show Rl 152 M_S_text 0 [some (.ref 0), none] [] g I K
  have hk0 := fun h => rdA_ok (C0 := C0) okt h
  have h14 := ok.2.1
  have t14 := ok.2.2.2.1
  have zz := G.1
  unfold textN textA at kk
  generalize hrd : rdA T z C0 = r at kk hk0
  have lnd0 : ∀ J : IM, fre rdf I J → LaR g (pI J 67 1 (nI 0)) 1 N n tn := fun J hJ => LR_fr hL h14 (r := 43) GS_rf (by decide) (by decide) (fr_pI (P := fun i => rdf i ∨ i = 67) (fr_mono hJ (fun i hi => Or.inl hi)) (Or.inr rfl)) (fun i hi q => by unfold lnd at hi; unfold rdf at q; omega) (fun i hi => by unfold rdf at hi; omega)
  have frm : ∀ J : IM, fre rdf I J → ∀ i, i < gz g → ¬ txf i → pI J 67 1 (nI 0) i = I i := fun J hJ i hi hx => by
    rw [pI_rw (fun q => hx (by unfold txf; omega))]
    exact hJ i (fun q => hx (by unfold rdf at q; unfold txf; omega))
  repeat' (first
    | ((first | refine T_aload_n (pc1 := 1) (pc := 0) k_S_text_0 rfl rfl ?_ | refine T_aload_nN (pc1 := 1) (pc := 0) k_S_text_0 rfl rfl ?_) <;> try (refine T_getR (pc1 := 4) (pc := 1) k_S_text_1 rfl f_S_43 rfl (by first | assumption | exact ga G (by decide) rfl | exact lgA LG (by omega)) (by first | assumption | exact gr G (by decide) rfl | exact lgR LG (by omega)) ?_ <;> try ((refine T_cV (As := []) (d1 := 151) (pc1 := 7) (pc := 4) k_S_text_4 rfl (by decide) (Nat.le_of_ble_eq_true rfl) rfl o_Re_readsWhole l_S_267 rfl (by first | assumption | exact ga G (by decide) rfl | exact lgA LG (by omega)) rfl (c_Re_readsWhole (C0 := C0) G hF okt hT (fun J hb hJ j4 j6 j7 jc => ?_) (fun J hb hJ j1 => ?_)) <;> try dsimp only [psh]))))
    | refine T_getR (pc1 := 4) (pc := 1) k_S_text_1 rfl f_S_43 rfl (by first | assumption | exact ga G (by decide) rfl | exact lgA LG (by omega)) (by first | assumption | exact gr G (by decide) rfl | exact lgR LG (by omega)) ?_
    | (refine T_cV (As := []) (d1 := 151) (pc1 := 7) (pc := 4) k_S_text_4 rfl (by decide) (Nat.le_of_ble_eq_true rfl) rfl o_Re_readsWhole l_S_267 rfl (by first | assumption | exact ga G (by decide) rfl | exact lgA LG (by omega)) rfl (c_Re_readsWhole (C0 := C0) G hF okt hT (fun J hb hJ j4 j6 j7 jc => ?_) (fun J hb hJ j1 => ?_)) <;> try dsimp only [psh]))
  · rw [hrd] at hb j4 j6 j7 jc
    obtain ⟨k3, oc, m95, v95, v1⟩ := hk0 hb
    rw [if_neg (show ¬ r.1 = true by rw [hb]; decide)] at kk
    have hL2 := lnd0 J hJ
    have hfr := frm J hJ
    have t8 := hL2.1.2.1
    have j4b : pI J 67 1 (nI 0) 66 4 = nI r.2.1 := (pI_row (by decide)).trans j4
    have j6b : pI J 67 1 (nI 0) 66 6 = nI (pM r.2.2) := (pI_row (by decide)).trans j6
    have j7b : pI J 67 1 (nI 0) 66 7 = nI (pV r.2.2) := (pI_row (by decide)).trans j7
    have jcb : ∀ k, k < pM r.2.2 → pI J 67 1 (nI 0) 69 k = trc (pC r.2.2 k) := fun k hk => (pI_row (by decide)).trans (jc k hk)
    have sz : pI J 67 1 (nI 0) 67 1 = nI 0 := pI_eq
    repeat' (first
      | (refine T_istore_n (pc1 := 8) (pc := 7) k_S_text_7 rfl (Nat.le_of_ble_eq_true rfl) ?_ <;> try ((first | refine T_aload_n (pc1 := 9) (pc := 8) k_S_text_8 rfl rfl ?_ | refine T_aload_nN (pc1 := 9) (pc := 8) k_S_text_8 rfl rfl ?_) <;> try (refine T_getR (pc1 := 12) (pc := 9) k_S_text_9 rfl f_S_43 rfl (by first | assumption | exact ga G (by decide) rfl | exact lgA LG (by omega)) (by first | assumption | exact gr G (by decide) rfl | exact lgR LG (by omega)) ?_ <;> try (refine T_getR (pc1 := 15) (pc := 12) k_S_text_12 rfl f_S_253 rfl (by first | assumption | exact ga G (by decide) rfl | exact lgA LG (by omega)) (by first | assumption | exact gr G (by decide) rfl | exact lgR LG (by omega)) ?_ <;> try (refine T_iconst (v := (nI 0)) (pc1 := 16) (pc := 15) k_S_text_15 rfl (by decide) ?_ <;> try (refine T_putI (pc1 := 19) (pc := 16) k_S_text_16 rfl f_S_266 rfl (by first | assumption | exact ga G (by decide) rfl | exact lgA LG (by omega)) (by first | rfl | decide | assumption) (by first | rfl | decide | assumption) ?_ <;> try (refine T_iload_n (pc1 := 20) (pc := 19) k_S_text_19 rfl rfl ?_)))))))
      | refine T_aload_n (pc1 := 9) (pc := 8) k_S_text_8 rfl rfl ?_
      | refine T_aload_nN (pc1 := 9) (pc := 8) k_S_text_8 rfl rfl ?_
      | refine T_getR (pc1 := 12) (pc := 9) k_S_text_9 rfl f_S_43 rfl (by first | assumption | exact ga G (by decide) rfl | exact lgA LG (by omega)) (by first | assumption | exact gr G (by decide) rfl | exact lgR LG (by omega)) ?_
      | refine T_getR (pc1 := 15) (pc := 12) k_S_text_12 rfl f_S_253 rfl (by first | assumption | exact ga G (by decide) rfl | exact lgA LG (by omega)) (by first | assumption | exact gr G (by decide) rfl | exact lgR LG (by omega)) ?_
      | refine T_iconst (v := (nI 0)) (pc1 := 16) (pc := 15) k_S_text_15 rfl (by decide) ?_
      | refine T_putI (pc1 := 19) (pc := 16) k_S_text_16 rfl f_S_266 rfl (by first | assumption | exact ga G (by decide) rfl | exact lgA LG (by omega)) (by first | rfl | decide | assumption) (by first | rfl | decide | assumption) ?_
      | refine T_iload_n (pc1 := 20) (pc := 19) k_S_text_19 rfl rfl ?_)
    all_goals try (exfalso; omega)
    generalize pI J 67 1 (nI 0) = J1 at *
    by_cases ht : tn = 14
    · rw [if_neg (fun q => q.2 ht), if_pos ht] at kk
      have kk := kk g J1 _ tn G GX_rf (by omega) hz3 (by omega) ok okw hL2 hfr sz rfl
      repeat' (first
        | ((first | (with_reducible refine T_if_neN (tgt := 34) (pc1 := 23) (pc := 20) k_S_text_20 (by decide) (by decide) (by omega) (fun hc => ?_) (fun hc => ?_) <;> first | (exfalso; omega) | skip) | refine T_if_ne_t (tgt := 34) (pc := 20) k_S_text_20 rfl (by decide) ?_ | refine T_if_ne_f (tgt := 34) (pc1 := 23) (pc := 20) k_S_text_20 rfl rfl (by decide) ?_ | refine T_if_ne (tgt := 34) (pc1 := 23) (pc := 20) k_S_text_20 rfl rfl (fun hc => ?_) (fun hc => ?_)))
        | (refine T_bipush (v := (-100)) (pc1 := 25) (pc := 23) k_S_text_23 rfl (by decide) ?_ <;> try ((first | refine T_aload_n (pc1 := 26) (pc := 25) k_S_text_25 rfl rfl ?_ | refine T_aload_nN (pc1 := 26) (pc := 25) k_S_text_25 rfl rfl ?_) <;> try (refine T_getR (pc1 := 29) (pc := 26) k_S_text_26 rfl f_S_43 rfl (by first | assumption | exact ga G (by decide) rfl | exact lgA LG (by omega)) (by first | assumption | exact gr G (by decide) rfl | exact lgR LG (by omega)) ?_ <;> try (refine T_getV (pc1 := 32) (pc := 29) k_S_text_29 rfl f_S_270 rfl (by first | assumption | exact ga G (by decide) rfl | exact lgA LG (by omega)) (by first | assumption | (simp (disch := omega) only [pI_eq, pI_row, pI_col, va_up_self, va_up_ne, ne_eq, not_false_eq_true] <;> rfl) | rfl) ?_ <;> try ((first | with_reducible refine T_isubN (pc1 := 33) (pc := 32) k_S_text_32 (by decide) (by omega) ?_ | refine T_isub (pc1 := 33) (pc := 32) k_S_text_32 rfl ?_) <;> try (refine T_retI (pc := 33) k_S_text_33 rfl (by first | rfl | decide | assumption) ?_))))))
        | ((first | refine T_aload_n (pc1 := 35) (pc := 34) k_S_text_34 rfl rfl ?_ | refine T_aload_nN (pc1 := 35) (pc := 34) k_S_text_34 rfl rfl ?_) <;> try (refine T_getR (pc1 := 38) (pc := 35) k_S_text_35 rfl f_S_10 rfl (by first | assumption | exact ga G (by decide) rfl | exact lgA LG (by omega)) (by first | assumption | exact gr G (by decide) rfl | exact lgR LG (by omega)) ?_ <;> try (refine T_getV (pc1 := 41) (pc := 38) k_S_text_38 rfl f_S_273 rfl (by first | assumption | exact ga G (by decide) rfl | exact lgA LG (by omega)) (by first | assumption | (simp (disch := omega) only [pI_eq, pI_row, pI_col, va_up_self, va_up_ne, ne_eq, not_false_eq_true] <;> rfl) | rfl) ?_ <;> try (refine T_bipush (v := (nI 14)) (pc1 := 43) (pc := 41) k_S_text_41 rfl (by decide) ?_ <;> try ((first | (with_reducible refine T_icmp_ltN (tgt := 49) (pc1 := 46) (pc := 43) k_S_text_43 (by decide) (by decide) (by omega) (by omega) (fun hc => ?_) (fun hc => ?_) <;> first | (exfalso; omega) | skip) | refine T_icmp_lt_t (tgt := 49) (pc := 43) k_S_text_43 rfl (by decide) ?_ | refine T_icmp_lt_f (tgt := 49) (pc1 := 46) (pc := 43) k_S_text_43 rfl rfl (by decide) ?_ | refine T_icmp_lt (tgt := 49) (pc1 := 46) (pc := 43) k_S_text_43 rfl rfl (fun hc => ?_) (fun hc => ?_)))))))
        | (refine T_ldc (v := (-1000000003)) (pc1 := 48) (pc := 46) k_S_text_46 rfl c_S_85 ?_ <;> try (refine T_retI (pc := 48) k_S_text_48 rfl (by first | rfl | decide | assumption) ?_))
        | refine T_aload_n (pc1 := 26) (pc := 25) k_S_text_25 rfl rfl ?_
        | refine T_aload_nN (pc1 := 26) (pc := 25) k_S_text_25 rfl rfl ?_
        | refine T_getR (pc1 := 29) (pc := 26) k_S_text_26 rfl f_S_43 rfl (by first | assumption | exact ga G (by decide) rfl | exact lgA LG (by omega)) (by first | assumption | exact gr G (by decide) rfl | exact lgR LG (by omega)) ?_
        | refine T_getV (pc1 := 32) (pc := 29) k_S_text_29 rfl f_S_270 rfl (by first | assumption | exact ga G (by decide) rfl | exact lgA LG (by omega)) (by first | assumption | (simp (disch := omega) only [pI_eq, pI_row, pI_col, va_up_self, va_up_ne, ne_eq, not_false_eq_true] <;> rfl) | rfl) ?_
        | with_reducible refine T_isubN (pc1 := 33) (pc := 32) k_S_text_32 (by decide) (by omega) ?_
        | refine T_isub (pc1 := 33) (pc := 32) k_S_text_32 rfl ?_
        | refine T_retI (pc := 33) k_S_text_33 rfl (by first | rfl | decide | assumption) ?_
        | refine T_getR (pc1 := 38) (pc := 35) k_S_text_35 rfl f_S_10 rfl (by first | assumption | exact ga G (by decide) rfl | exact lgA LG (by omega)) (by first | assumption | exact gr G (by decide) rfl | exact lgR LG (by omega)) ?_
        | refine T_getV (pc1 := 41) (pc := 38) k_S_text_38 rfl f_S_273 rfl (by first | assumption | exact ga G (by decide) rfl | exact lgA LG (by omega)) (by first | assumption | (simp (disch := omega) only [pI_eq, pI_row, pI_col, va_up_self, va_up_ne, ne_eq, not_false_eq_true] <;> rfl) | rfl) ?_
        | refine T_bipush (v := (nI 14)) (pc1 := 43) (pc := 41) k_S_text_41 rfl (by decide) ?_
        | (with_reducible refine T_icmp_ltN (tgt := 49) (pc1 := 46) (pc := 43) k_S_text_43 (by decide) (by decide) (by omega) (by omega) (fun hc => ?_) (fun hc => ?_) <;> first | (exfalso; omega) | skip)
        | refine T_icmp_lt_t (tgt := 49) (pc := 43) k_S_text_43 rfl (by decide) ?_
        | refine T_icmp_lt_f (tgt := 49) (pc1 := 46) (pc := 43) k_S_text_43 rfl rfl (by decide) ?_
        | refine T_icmp_lt (tgt := 49) (pc1 := 46) (pc := 43) k_S_text_43 rfl rfl (fun hc => ?_) (fun hc => ?_)
        | refine T_retI (pc := 48) k_S_text_48 rfl (by first | rfl | decide | assumption) ?_)
      all_goals first | exact kk | (exfalso; omega)
    · rw [if_pos ⟨hb, ht⟩, if_neg ht] at kk
      repeat' (first
        | ((first | (with_reducible refine T_if_neN (tgt := 34) (pc1 := 23) (pc := 20) k_S_text_20 (by decide) (by decide) (by omega) (fun hc => ?_) (fun hc => ?_) <;> first | (exfalso; omega) | skip) | refine T_if_ne_t (tgt := 34) (pc := 20) k_S_text_20 rfl (by decide) ?_ | refine T_if_ne_f (tgt := 34) (pc1 := 23) (pc := 20) k_S_text_20 rfl rfl (by decide) ?_ | refine T_if_ne (tgt := 34) (pc1 := 23) (pc := 20) k_S_text_20 rfl rfl (fun hc => ?_) (fun hc => ?_)))
        | (refine T_bipush (v := (-100)) (pc1 := 25) (pc := 23) k_S_text_23 rfl (by decide) ?_ <;> try ((first | refine T_aload_n (pc1 := 26) (pc := 25) k_S_text_25 rfl rfl ?_ | refine T_aload_nN (pc1 := 26) (pc := 25) k_S_text_25 rfl rfl ?_) <;> try (refine T_getR (pc1 := 29) (pc := 26) k_S_text_26 rfl f_S_43 rfl (by first | assumption | exact ga G (by decide) rfl | exact lgA LG (by omega)) (by first | assumption | exact gr G (by decide) rfl | exact lgR LG (by omega)) ?_ <;> try (refine T_getV (pc1 := 32) (pc := 29) k_S_text_29 rfl f_S_270 rfl (by first | assumption | exact ga G (by decide) rfl | exact lgA LG (by omega)) (by first | assumption | (simp (disch := omega) only [pI_eq, pI_row, pI_col, va_up_self, va_up_ne, ne_eq, not_false_eq_true] <;> rfl) | rfl) ?_ <;> try ((first | with_reducible refine T_isubN (pc1 := 33) (pc := 32) k_S_text_32 (by decide) (by omega) ?_ | refine T_isub (pc1 := 33) (pc := 32) k_S_text_32 rfl ?_) <;> try (refine T_retI (pc := 33) k_S_text_33 rfl (by first | rfl | decide | assumption) ?_))))))
        | ((first | refine T_aload_n (pc1 := 35) (pc := 34) k_S_text_34 rfl rfl ?_ | refine T_aload_nN (pc1 := 35) (pc := 34) k_S_text_34 rfl rfl ?_) <;> try (refine T_getR (pc1 := 38) (pc := 35) k_S_text_35 rfl f_S_10 rfl (by first | assumption | exact ga G (by decide) rfl | exact lgA LG (by omega)) (by first | assumption | exact gr G (by decide) rfl | exact lgR LG (by omega)) ?_ <;> try (refine T_getV (pc1 := 41) (pc := 38) k_S_text_38 rfl f_S_273 rfl (by first | assumption | exact ga G (by decide) rfl | exact lgA LG (by omega)) (by first | assumption | (simp (disch := omega) only [pI_eq, pI_row, pI_col, va_up_self, va_up_ne, ne_eq, not_false_eq_true] <;> rfl) | rfl) ?_ <;> try (refine T_bipush (v := (nI 14)) (pc1 := 43) (pc := 41) k_S_text_41 rfl (by decide) ?_ <;> try ((first | (with_reducible refine T_icmp_ltN (tgt := 49) (pc1 := 46) (pc := 43) k_S_text_43 (by decide) (by decide) (by omega) (by omega) (fun hc => ?_) (fun hc => ?_) <;> first | (exfalso; omega) | skip) | refine T_icmp_lt_t (tgt := 49) (pc := 43) k_S_text_43 rfl (by decide) ?_ | refine T_icmp_lt_f (tgt := 49) (pc1 := 46) (pc := 43) k_S_text_43 rfl rfl (by decide) ?_ | refine T_icmp_lt (tgt := 49) (pc1 := 46) (pc := 43) k_S_text_43 rfl rfl (fun hc => ?_) (fun hc => ?_)))))))
        | (refine T_ldc (v := (-1000000003)) (pc1 := 48) (pc := 46) k_S_text_46 rfl c_S_85 ?_ <;> try (refine T_retI (pc := 48) k_S_text_48 rfl (by first | rfl | decide | assumption) ?_))
        | ((first | refine T_aload_n (pc1 := 50) (pc := 49) k_S_text_49 rfl rfl ?_ | refine T_aload_nN (pc1 := 50) (pc := 49) k_S_text_49 rfl rfl ?_) <;> try (refine T_getR (pc1 := 53) (pc := 50) k_S_text_50 rfl f_S_10 rfl (by first | assumption | exact ga G (by decide) rfl | exact lgA LG (by omega)) (by first | assumption | exact gr G (by decide) rfl | exact lgR LG (by omega)) ?_ <;> try ((first | refine T_aload_n (pc1 := 54) (pc := 53) k_S_text_53 rfl rfl ?_ | refine T_aload_nN (pc1 := 54) (pc := 53) k_S_text_53 rfl rfl ?_) <;> try (refine T_getR (pc1 := 57) (pc := 54) k_S_text_54 rfl f_S_43 rfl (by first | assumption | exact ga G (by decide) rfl | exact lgA LG (by omega)) (by first | assumption | exact gr G (by decide) rfl | exact lgR LG (by omega)) ?_ <;> try ((refine T_cV (As := []) (d1 := 2) (pc1 := 60) (pc := 57) k_S_text_57 rfl (by decide) (Nat.le_of_ble_eq_true rfl) rfl o_Re_made l_S_276 rfl (by first | assumption | exact ga G (by decide) rfl | exact lgA LG (by omega)) rfl (c_Re_made G j4b j6b j7b v1 v95 m95 (by omega) (fun g1 J2 hX r3 z1 s1 a0 a1 a2 q2 q3 hJ2 i0 i1 ic => ?_)) <;> try dsimp only [psh]))))))
        | refine T_aload_n (pc1 := 26) (pc := 25) k_S_text_25 rfl rfl ?_
        | refine T_aload_nN (pc1 := 26) (pc := 25) k_S_text_25 rfl rfl ?_
        | refine T_getR (pc1 := 29) (pc := 26) k_S_text_26 rfl f_S_43 rfl (by first | assumption | exact ga G (by decide) rfl | exact lgA LG (by omega)) (by first | assumption | exact gr G (by decide) rfl | exact lgR LG (by omega)) ?_
        | refine T_getV (pc1 := 32) (pc := 29) k_S_text_29 rfl f_S_270 rfl (by first | assumption | exact ga G (by decide) rfl | exact lgA LG (by omega)) (by first | assumption | (simp (disch := omega) only [pI_eq, pI_row, pI_col, va_up_self, va_up_ne, ne_eq, not_false_eq_true] <;> rfl) | rfl) ?_
        | with_reducible refine T_isubN (pc1 := 33) (pc := 32) k_S_text_32 (by decide) (by omega) ?_
        | refine T_isub (pc1 := 33) (pc := 32) k_S_text_32 rfl ?_
        | refine T_retI (pc := 33) k_S_text_33 rfl (by first | rfl | decide | assumption) ?_
        | refine T_getR (pc1 := 38) (pc := 35) k_S_text_35 rfl f_S_10 rfl (by first | assumption | exact ga G (by decide) rfl | exact lgA LG (by omega)) (by first | assumption | exact gr G (by decide) rfl | exact lgR LG (by omega)) ?_
        | refine T_getV (pc1 := 41) (pc := 38) k_S_text_38 rfl f_S_273 rfl (by first | assumption | exact ga G (by decide) rfl | exact lgA LG (by omega)) (by first | assumption | (simp (disch := omega) only [pI_eq, pI_row, pI_col, va_up_self, va_up_ne, ne_eq, not_false_eq_true] <;> rfl) | rfl) ?_
        | refine T_bipush (v := (nI 14)) (pc1 := 43) (pc := 41) k_S_text_41 rfl (by decide) ?_
        | (with_reducible refine T_icmp_ltN (tgt := 49) (pc1 := 46) (pc := 43) k_S_text_43 (by decide) (by decide) (by omega) (by omega) (fun hc => ?_) (fun hc => ?_) <;> first | (exfalso; omega) | skip)
        | refine T_icmp_lt_t (tgt := 49) (pc := 43) k_S_text_43 rfl (by decide) ?_
        | refine T_icmp_lt_f (tgt := 49) (pc1 := 46) (pc := 43) k_S_text_43 rfl rfl (by decide) ?_
        | refine T_icmp_lt (tgt := 49) (pc1 := 46) (pc := 43) k_S_text_43 rfl rfl (fun hc => ?_) (fun hc => ?_)
        | refine T_retI (pc := 48) k_S_text_48 rfl (by first | rfl | decide | assumption) ?_
        | refine T_getR (pc1 := 53) (pc := 50) k_S_text_50 rfl f_S_10 rfl (by first | assumption | exact ga G (by decide) rfl | exact lgA LG (by omega)) (by first | assumption | exact gr G (by decide) rfl | exact lgR LG (by omega)) ?_
        | refine T_aload_n (pc1 := 54) (pc := 53) k_S_text_53 rfl rfl ?_
        | refine T_aload_nN (pc1 := 54) (pc := 53) k_S_text_53 rfl rfl ?_
        | refine T_getR (pc1 := 57) (pc := 54) k_S_text_54 rfl f_S_43 rfl (by first | assumption | exact ga G (by decide) rfl | exact lgA LG (by omega)) (by first | assumption | exact gr G (by decide) rfl | exact lgR LG (by omega)) ?_
        | (refine T_cV (As := []) (d1 := 2) (pc1 := 60) (pc := 57) k_S_text_57 rfl (by decide) (Nat.le_of_ble_eq_true rfl) rfl o_Re_made l_S_276 rfl (by first | assumption | exact ga G (by decide) rfl | exact lgA LG (by omega)) rfl (c_Re_made G j4b j6b j7b v1 v95 m95 (by omega) (fun g1 J2 hX r3 z1 s1 a0 a1 a2 q2 q3 hJ2 i0 i1 ic => ?_)) <;> try dsimp only [psh]))
      all_goals try (exfalso; omega)
      have G1 := GX_G hX G (by omega)
      have t8b : J2 1 8 = nI tn := by rw [hJ2 1 (by omega)]; exact t8
      repeat' (first
        | ((refine T_cV (As := [_]) (d1 := 1) (pc1 := 63) (pc := 60) k_S_text_60 rfl (by decide) (Nat.le_of_ble_eq_true rfl) rfl o_La_addText l_S_280 rfl (ga G1 (by decide) rfl) rfl (c_La_addText G1 a0 i0 k3 t8b (by omega) ?_) <;> try dsimp only [psh]) <;> try (refine T_retI (pc := 63) k_S_text_63 rfl (by first | rfl | decide | assumption) ?_))
        | refine T_retI (pc := 63) k_S_text_63 rfl (by first | rfl | decide | assumption) ?_)
      have G2 : GeoOK (gpR g1 3 tn (some (gz g))) := GS_G GS_p (Or.inl rfl) G1
      have hX2 : GX g (gpR g1 3 tn (some (gz g))) := GX_pn hX (Or.inr rfl)
      have nj : ∀ i, i < gz g → i ≠ 1 → i ≠ 4 → pI (pI J2 4 r.2.1 (nI tn)) 1 8 (nI (tn + 1)) i = J1 i := fun i hi h1 h4 => by rw [pI_rw h1, pI_rw h4]; exact hJ2 i hi
      have nn : ∀ i, gz g ≤ i → pI (pI J2 4 r.2.1 (nI tn)) 1 8 (nI (tn + 1)) i = J2 i := fun i hi => by rw [pI_rw (by omega), pI_rw (by omega)]
      have n1 : ∀ k, k ≠ 8 → pI (pI J2 4 r.2.1 (nI tn)) 1 8 (nI (tn + 1)) 1 k = J1 1 k := fun k hk => by rw [pI_col hk, pI_row (by decide), hJ2 1 (by omega)]
      have n4 : pI (pI J2 4 r.2.1 (nI tn)) 1 8 (nI (tn + 1)) 4 = va_up (J1 4) r.2.1 (nI tn) := by rw [pI_rw (by decide), pI_self, hJ2 4 (by omega)]
      have n8 : pI (pI J2 4 r.2.1 (nI tn)) 1 8 (nI (tn + 1)) 1 8 = nI (tn + 1) := pI_eq
      generalize pI (pI J2 4 r.2.1 (nI tn)) 1 8 (nI (tn + 1)) = J3 at *
      obtain ⟨⟨l1, l2, l3⟩, ⟨b1, b2, b3, b4⟩, ⟨w0, w1, w2, w3, w4, w5⟩, c1, c2, c3⟩ := id hL2
      have lo : ∀ k, k < 156 → k ≠ 6 → tAdd N tn r.2.1 r.2.2 k = N k := fun k hk h6 => tAdd_lo (by omega) h6
      refine kk (gpR g1 3 tn (some (gz g))) J3 _ (tn + 1) G2 hX2 (by show gz g1 ≤ _; omega) (by show gz g1 % 3 = 1; omega) (by show gs g1 ≤ _; omega) (okL_tAdd ok (by omega) k3 oc m95 v95) (okW_tAdd okw) ?_ (fun i hi hx => ?_) ?_ rfl
      · refine ⟨⟨fun key' hk' => ?_, n8, fun t htt => ?_⟩, ⟨?_, ?_, ?_, fun b hb2 k hk => ?_⟩, ⟨?_, ?_, ?_, ?_, ?_, fun i hi => ?_⟩, ?_, ?_, ?_⟩
        · show J3 4 key' = _
          rw [n4, txt_tAdd k3 hk']
          by_cases e : key' = r.2.1
          · subst e; rw [va_up_self, if_pos rfl]; rfl
          · rw [va_up_ne _ _ e, if_neg e]; exact l1 key' hk'
        · by_cases e : t = tn
          · subst e
            refine ⟨gz g, gpR_eq, ⟨zz, hz3, a0, ?_, ?_, ?_, ?_, ?_, ?_, fun k hk => ?_⟩⟩
            · have : gR (gpR g1 3 t (some (gz g))) (gz g) = gR g1 (gz g) := va_up_ne _ _ (by omega)
              rw [this]; exact q2
            · have : gR (gpR g1 3 t (some (gz g))) (gz g) = gR g1 (gz g) := va_up_ne _ _ (by omega)
              rw [this]; exact q3
            · rw [nn _ (Nat.le_refl _), tAdd_0]; exact i0
            · rw [nn _ (Nat.le_refl _), tAdd_1]; exact i1
            · rw [tAdd_2, nI_clamp (by omega)]; exact a1
            · rw [tAdd_1, nI_clamp (by omega)]; exact a2
            · rw [tAdd_2, nI_clamp (by omega)] at hk
              rw [nn _ (by omega), ic k hk, jcb k hk, tAdd_c hk]
          · obtain ⟨q, hq, hx⟩ := l3 t (by omega)
            refine ⟨q, ?_, TxR_tAdd ok (GX_T hX2 hx ?_ ?_) (by omega)⟩
            · show gR (gpR g1 3 tn (some (gz g))) 3 t = _
              rw [gpR_ne e, r3]; exact hq
            · exact nj q hx.2.2.1.1 (by have := hx.1; omega) (by have := hx.1; omega)
            · exact nj (q + 1) hx.2.2.2.2.2.2.2.1.1 (by have := hx.1; omega) (by have := hx.1; omega)
        · rw [n1 _ (by decide)]; exact b1
        · rw [n1 _ (by decide), lo _ (by decide) (by decide)]; exact b2
        · rw [n1 _ (by decide), lo _ (by decide) (by decide)]; exact b3
        · rw [nj _ (by omega) (by omega) (by omega)]
          unfold bf
          rw [lo _ (by omega) (by omega)]
          exact b4 b hb2 k hk
        · rw [nj _ (by omega) (by decide) (by decide), lo _ (by decide) (by decide)]; exact w0
        · rw [nj _ (by omega) (by decide) (by decide), lo _ (by decide) (by decide)]; exact w1
        · rw [nj _ (by omega) (by decide) (by decide), lo _ (by decide) (by decide)]; exact w2
        · rw [nj _ (by omega) (by decide) (by decide), lo _ (by decide) (by decide)]; exact w3
        · rw [nj _ (by omega) (by decide) (by decide), lo _ (by decide) (by decide)]; exact w4
        · rw [lo _ (by decide) (by decide)] at hi
          obtain ⟨tr, h60, h9, -⟩ := id okw
          have hi2 : i < tr := by rw [h9, nI_clamp (by omega)] at hi; exact hi
          rw [nj _ (by omega) (by decide) (by decide), lo _ (by omega) (by omega)]; exact w5 i hi
        · rw [n1 _ (by decide), lo _ (by decide) (by decide)]; exact c1
        · rw [n1 _ (by decide), lo _ (by decide) (by decide)]; exact c2
        · rw [n1 _ (by decide), lo _ (by decide) (by decide)]; exact c3
      · rw [nj i hi (fun q => hx (by unfold txf lnd; omega)) (fun q => hx (by unfold txf lnd; omega))]
        exact hfr i hi hx
      · rw [nj 67 (by omega) (by decide) (by decide)]; exact sz
  · rw [hrd] at hb j1
    rw [if_pos hb, if_neg (fun q => by rw [hb] at q; exact absurd q.1 (by decide))] at kk
    have j1b : pI J 67 1 (nI 0) 66 1 = nI (pS r.2.2) := (pI_row (by decide)).trans j1
    have kk := kk g _ _ tn G GX_rf (by omega) hz3 (by omega) ok okw (lnd0 J hJ) (frm J hJ) pI_eq rfl
    repeat' (first
      | (refine T_istore_n (pc1 := 8) (pc := 7) k_S_text_7 rfl (Nat.le_of_ble_eq_true rfl) ?_ <;> try ((first | refine T_aload_n (pc1 := 9) (pc := 8) k_S_text_8 rfl rfl ?_ | refine T_aload_nN (pc1 := 9) (pc := 8) k_S_text_8 rfl rfl ?_) <;> try (refine T_getR (pc1 := 12) (pc := 9) k_S_text_9 rfl f_S_43 rfl (by first | assumption | exact ga G (by decide) rfl | exact lgA LG (by omega)) (by first | assumption | exact gr G (by decide) rfl | exact lgR LG (by omega)) ?_ <;> try (refine T_getR (pc1 := 15) (pc := 12) k_S_text_12 rfl f_S_253 rfl (by first | assumption | exact ga G (by decide) rfl | exact lgA LG (by omega)) (by first | assumption | exact gr G (by decide) rfl | exact lgR LG (by omega)) ?_ <;> try (refine T_iconst (v := (nI 0)) (pc1 := 16) (pc := 15) k_S_text_15 rfl (by decide) ?_ <;> try (refine T_putI (pc1 := 19) (pc := 16) k_S_text_16 rfl f_S_266 rfl (by first | assumption | exact ga G (by decide) rfl | exact lgA LG (by omega)) (by first | rfl | decide | assumption) (by first | rfl | decide | assumption) ?_ <;> try (refine T_iload_n (pc1 := 20) (pc := 19) k_S_text_19 rfl rfl ?_ <;> try ((first | (with_reducible refine T_if_neN (tgt := 34) (pc1 := 23) (pc := 20) k_S_text_20 (by decide) (by decide) (by omega) (fun hc => ?_) (fun hc => ?_) <;> first | (exfalso; omega) | skip) | refine T_if_ne_t (tgt := 34) (pc := 20) k_S_text_20 rfl (by decide) ?_ | refine T_if_ne_f (tgt := 34) (pc1 := 23) (pc := 20) k_S_text_20 rfl rfl (by decide) ?_ | refine T_if_ne (tgt := 34) (pc1 := 23) (pc := 20) k_S_text_20 rfl rfl (fun hc => ?_) (fun hc => ?_))))))))))
      | (refine T_bipush (v := (-100)) (pc1 := 25) (pc := 23) k_S_text_23 rfl (by decide) ?_ <;> try ((first | refine T_aload_n (pc1 := 26) (pc := 25) k_S_text_25 rfl rfl ?_ | refine T_aload_nN (pc1 := 26) (pc := 25) k_S_text_25 rfl rfl ?_) <;> try (refine T_getR (pc1 := 29) (pc := 26) k_S_text_26 rfl f_S_43 rfl (by first | assumption | exact ga G (by decide) rfl | exact lgA LG (by omega)) (by first | assumption | exact gr G (by decide) rfl | exact lgR LG (by omega)) ?_ <;> try (refine T_getV (pc1 := 32) (pc := 29) k_S_text_29 rfl f_S_270 rfl (by first | assumption | exact ga G (by decide) rfl | exact lgA LG (by omega)) (by first | assumption | (simp (disch := omega) only [pI_eq, pI_row, pI_col, va_up_self, va_up_ne, ne_eq, not_false_eq_true] <;> rfl) | rfl) ?_ <;> try (refine T_isub (pc1 := 33) (pc := 32) k_S_text_32 rfl ?_ <;> try (refine T_retI (pc := 33) k_S_text_33 rfl (by first | rfl | decide | assumption) ?_))))))
      | refine T_aload_n (pc1 := 9) (pc := 8) k_S_text_8 rfl rfl ?_
      | refine T_aload_nN (pc1 := 9) (pc := 8) k_S_text_8 rfl rfl ?_
      | refine T_getR (pc1 := 12) (pc := 9) k_S_text_9 rfl f_S_43 rfl (by first | assumption | exact ga G (by decide) rfl | exact lgA LG (by omega)) (by first | assumption | exact gr G (by decide) rfl | exact lgR LG (by omega)) ?_
      | refine T_getR (pc1 := 15) (pc := 12) k_S_text_12 rfl f_S_253 rfl (by first | assumption | exact ga G (by decide) rfl | exact lgA LG (by omega)) (by first | assumption | exact gr G (by decide) rfl | exact lgR LG (by omega)) ?_
      | refine T_iconst (v := (nI 0)) (pc1 := 16) (pc := 15) k_S_text_15 rfl (by decide) ?_
      | refine T_putI (pc1 := 19) (pc := 16) k_S_text_16 rfl f_S_266 rfl (by first | assumption | exact ga G (by decide) rfl | exact lgA LG (by omega)) (by first | rfl | decide | assumption) (by first | rfl | decide | assumption) ?_
      | refine T_iload_n (pc1 := 20) (pc := 19) k_S_text_19 rfl rfl ?_
      | (with_reducible refine T_if_neN (tgt := 34) (pc1 := 23) (pc := 20) k_S_text_20 (by decide) (by decide) (by omega) (fun hc => ?_) (fun hc => ?_) <;> first | (exfalso; omega) | skip)
      | refine T_if_ne_t (tgt := 34) (pc := 20) k_S_text_20 rfl (by decide) ?_
      | refine T_if_ne_f (tgt := 34) (pc1 := 23) (pc := 20) k_S_text_20 rfl rfl (by decide) ?_
      | refine T_if_ne (tgt := 34) (pc1 := 23) (pc := 20) k_S_text_20 rfl rfl (fun hc => ?_) (fun hc => ?_)
      | refine T_aload_n (pc1 := 26) (pc := 25) k_S_text_25 rfl rfl ?_
      | refine T_aload_nN (pc1 := 26) (pc := 25) k_S_text_25 rfl rfl ?_
      | refine T_getR (pc1 := 29) (pc := 26) k_S_text_26 rfl f_S_43 rfl (by first | assumption | exact ga G (by decide) rfl | exact lgA LG (by omega)) (by first | assumption | exact gr G (by decide) rfl | exact lgR LG (by omega)) ?_
      | refine T_getV (pc1 := 32) (pc := 29) k_S_text_29 rfl f_S_270 rfl (by first | assumption | exact ga G (by decide) rfl | exact lgA LG (by omega)) (by first | assumption | (simp (disch := omega) only [pI_eq, pI_row, pI_col, va_up_self, va_up_ne, ne_eq, not_false_eq_true] <;> rfl) | rfl) ?_
      | refine T_isub (pc1 := 33) (pc := 32) k_S_text_32 rfl ?_
      | refine T_retI (pc := 33) k_S_text_33 rfl (by first | rfl | decide | assumption) ?_)
    all_goals first | exact kk | (exfalso; omega)
end S8
