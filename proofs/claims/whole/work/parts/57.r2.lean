/-! The class's reader: codes, signs, leaves. -/
section R2
variable {g : Geo} {I : IM} {K : Option Value → Geo → IM → Prop}
def PCo (T : Row) (z key no op : Nat) (p : PS) (I : IM) : Prop := CT I T z ∧ I 66 1 = nI (pS p) ∧ I 66 2 = nI (pE p) ∧ I 66 3 = nI (pO p) ∧ I 66 4 = nI key ∧ I 66 6 = nI (pM p) ∧ I 66 7 = nI (pV p) ∧ I 66 8 = nI op ∧ I 66 9 = nI no ∧ ∀ k, k < pM p → I 69 k = trc (pC p k)
def rdf (i : Nat) : Prop := i = 66 ∨ i = 69
theorem PCo_no {T : Row} {z key no no' op : Nat} {p : PS} {I : IM} (h : PCo T z key no op p I) : PCo T z key no' op p (pI I 66 9 (nI no')) := by
  obtain ⟨⟨h0, h0'⟩, h1, h2, h3, h4, h5, h6, h7, h8, h9⟩ := h
  exact ⟨⟨(pI_row (by decide)).trans h0, fun k hk => (pI_row (by decide)).trans (h0' k hk)⟩, (pI_col (by decide)).trans h1, (pI_col (by decide)).trans h2, (pI_col (by decide)).trans h3, (pI_col (by decide)).trans h4, (pI_col (by decide)).trans h5, (pI_col (by decide)).trans h6, (pI_col (by decide)).trans h7, pI_eq, fun k hk => (pI_row (by decide)).trans (h9 k hk)⟩
theorem PCo_op {T : Row} {z key no op op' : Nat} {p : PS} {I : IM} (h : PCo T z key no op p I) : PCo T z key no op' p (pI I 66 8 (nI op')) := by
  obtain ⟨⟨h0, h0'⟩, h1, h2, h3, h4, h5, h6, h7, h8, h9⟩ := h
  exact ⟨⟨(pI_row (by decide)).trans h0, fun k hk => (pI_row (by decide)).trans (h0' k hk)⟩, (pI_col (by decide)).trans h1, (pI_col (by decide)).trans h2, (pI_col (by decide)).trans h3, (pI_col (by decide)).trans h4, (pI_col (by decide)).trans h5, (pI_col (by decide)).trans h6, pI_eq, (pI_col (by decide)).trans h8, fun k hk => (pI_row (by decide)).trans (h9 k hk)⟩
theorem c_Re_nextO {T : Row} {z key no op : Nat} {p : PS} (G : GeoOK g) (okt : okTp T z) (h : PCo T z key no op p I) (hw : wfP T z p) (kk : ∀ J, fre rdf I J → PCo T z key no op (nx T z p) J → K none g J) : Cl 2 M_Re_next [.ref 66] g I K := by
  obtain ⟨h0, h1, h2, h3, h4, h5, h6, h7, h8, h9⟩ := h
  exact c_Re_next G okt h0 h2 hw.2.1 h3 hw.2.2.2.1 (fun J hJ hk j1 j2 j3 => kk J (fr_x hJ (fun i hi => Or.inl (by simpa using hi))) ⟨⟨by rw [hJ 67 (by decide)]; exact h0.1, fun k hk => by rw [hJ 68 (by decide)]; exact h0.2 k hk⟩, j1, j2, j3, (hk 4 (by decide) (by decide) (by decide)).trans h4, (hk 6 (by decide) (by decide) (by decide)).trans h5, (hk 7 (by decide) (by decide) (by decide)).trans h6, (hk 8 (by decide) (by decide) (by decide)).trans h7, (hk 9 (by decide) (by decide) (by decide)).trans h8, fun k hk => by rw [hJ 69 (by decide)]; exact h9 k hk⟩)
theorem c_Re_addCode {T : Row} {z key no op : Nat} {p : PS} {c v : Int32} (G : GeoOK g) (h : PCo T z key no op p I) (hm : pM p < 96) (hv : v = trc c) (kk : ∀ J, fre rdf I J → PCo T z key no op (ps1 p c) J → K none g J) : Cl 1 M_Re_addCode [.ref 66, .int v] g I K := by
  show Rl 1 M_Re_addCode 0 [some (.ref 66), some (.int v)] [] g I K
  obtain ⟨⟨h0, h0'⟩, h1, h2, h3, h4, h5, h6, h7, h8, h9⟩ := h
  repeat' (first
    | ((first | refine T_aload_n (pc1 := 1) (pc := 0) k_Re_addCode_0 rfl rfl ?_ | refine T_aload_nN (pc1 := 1) (pc := 0) k_Re_addCode_0 rfl rfl ?_) <;> try (refine T_getV (pc1 := 4) (pc := 1) k_Re_addCode_1 rfl f_Re_35 rfl (by first | assumption | exact ga G (by decide) rfl | exact lgA LG (by omega)) (by first | assumption | (simp (disch := omega) only [pI_eq, pI_row, pI_col, va_up_self, va_up_ne, ne_eq, not_false_eq_true, h5] <;> rfl) | rfl) ?_ <;> try (refine T_bipush (v := (nI 96)) (pc1 := 6) (pc := 4) k_Re_addCode_4 rfl (by decide) ?_ <;> try ((first | (with_reducible refine T_icmp_geN (tgt := 29) (pc1 := 9) (pc := 6) k_Re_addCode_6 (by decide) (by decide) (by omega) (by omega) (fun hc => ?_) (fun hc => ?_) <;> first | (exfalso; omega) | skip) | refine T_icmp_ge_t (tgt := 29) (pc := 6) k_Re_addCode_6 rfl (by decide) ?_ | refine T_icmp_ge_f (tgt := 29) (pc1 := 9) (pc := 6) k_Re_addCode_6 rfl rfl (by decide) ?_ | refine T_icmp_ge (tgt := 29) (pc1 := 9) (pc := 6) k_Re_addCode_6 rfl rfl (fun hc => ?_) (fun hc => ?_))))))
    | ((first | refine T_aload_n (pc1 := 10) (pc := 9) k_Re_addCode_9 rfl rfl ?_ | refine T_aload_nN (pc1 := 10) (pc := 9) k_Re_addCode_9 rfl rfl ?_) <;> try (refine T_getR (pc1 := 13) (pc := 10) k_Re_addCode_10 rfl f_Re_31 rfl (by first | assumption | exact ga G (by decide) rfl | exact lgA LG (by omega)) (by first | assumption | exact gr G (by decide) rfl | exact lgR LG (by omega)) ?_ <;> try ((first | refine T_aload_n (pc1 := 14) (pc := 13) k_Re_addCode_13 rfl rfl ?_ | refine T_aload_nN (pc1 := 14) (pc := 13) k_Re_addCode_13 rfl rfl ?_) <;> try (refine T_getV (pc1 := 17) (pc := 14) k_Re_addCode_14 rfl f_Re_35 rfl (by first | assumption | exact ga G (by decide) rfl | exact lgA LG (by omega)) (by first | assumption | (simp (disch := omega) only [pI_eq, pI_row, pI_col, va_up_self, va_up_ne, ne_eq, not_false_eq_true, h5] <;> rfl) | rfl) ?_ <;> try (refine T_iload_n (pc1 := 18) (pc := 17) k_Re_addCode_17 rfl rfl ?_ <;> try (refine T_iastN (pc1 := 19) (pc := 18) k_Re_addCode_18 rfl (by first | assumption | exact ga G (by decide) rfl | exact lgA LG (by omega)) (by omega) (by omega) ?_ <;> try ((first | refine T_aload_n (pc1 := 20) (pc := 19) k_Re_addCode_19 rfl rfl ?_ | refine T_aload_nN (pc1 := 20) (pc := 19) k_Re_addCode_19 rfl rfl ?_) <;> try (refine T_dup (pc1 := 21) (pc := 20) k_Re_addCode_20 rfl rfl ?_ <;> try (refine T_getV (pc1 := 24) (pc := 21) k_Re_addCode_21 rfl f_Re_35 rfl (by first | assumption | exact ga G (by decide) rfl | exact lgA LG (by omega)) (by first | assumption | (simp (disch := omega) only [pI_eq, pI_row, pI_col, va_up_self, va_up_ne, ne_eq, not_false_eq_true, h5] <;> rfl) | rfl) ?_ <;> try (refine T_iconst (v := (nI 1)) (pc1 := 25) (pc := 24) k_Re_addCode_24 rfl (by decide) ?_ <;> try ((first | with_reducible refine T_iaddN (pc1 := 26) (pc := 25) k_Re_addCode_25 (by decide) ?_ | refine T_iadd (pc1 := 26) (pc := 25) k_Re_addCode_25 rfl ?_) <;> try (refine T_putI (pc1 := 29) (pc := 26) k_Re_addCode_26 rfl f_Re_35 rfl (by first | assumption | exact ga G (by decide) rfl | exact lgA LG (by omega)) (by first | rfl | decide | assumption) (by first | rfl | decide | assumption) ?_))))))))))))
    | (refine T_retV (pc := 29) k_Re_addCode_29 rfl ?_)
    | refine T_getV (pc1 := 4) (pc := 1) k_Re_addCode_1 rfl f_Re_35 rfl (by first | assumption | exact ga G (by decide) rfl | exact lgA LG (by omega)) (by first | assumption | (simp (disch := omega) only [pI_eq, pI_row, pI_col, va_up_self, va_up_ne, ne_eq, not_false_eq_true, h5] <;> rfl) | rfl) ?_
    | refine T_bipush (v := (nI 96)) (pc1 := 6) (pc := 4) k_Re_addCode_4 rfl (by decide) ?_
    | (with_reducible refine T_icmp_geN (tgt := 29) (pc1 := 9) (pc := 6) k_Re_addCode_6 (by decide) (by decide) (by omega) (by omega) (fun hc => ?_) (fun hc => ?_) <;> first | (exfalso; omega) | skip)
    | refine T_icmp_ge_t (tgt := 29) (pc := 6) k_Re_addCode_6 rfl (by decide) ?_
    | refine T_icmp_ge_f (tgt := 29) (pc1 := 9) (pc := 6) k_Re_addCode_6 rfl rfl (by decide) ?_
    | refine T_icmp_ge (tgt := 29) (pc1 := 9) (pc := 6) k_Re_addCode_6 rfl rfl (fun hc => ?_) (fun hc => ?_)
    | refine T_getR (pc1 := 13) (pc := 10) k_Re_addCode_10 rfl f_Re_31 rfl (by first | assumption | exact ga G (by decide) rfl | exact lgA LG (by omega)) (by first | assumption | exact gr G (by decide) rfl | exact lgR LG (by omega)) ?_
    | refine T_aload_n (pc1 := 14) (pc := 13) k_Re_addCode_13 rfl rfl ?_
    | refine T_aload_nN (pc1 := 14) (pc := 13) k_Re_addCode_13 rfl rfl ?_
    | refine T_getV (pc1 := 17) (pc := 14) k_Re_addCode_14 rfl f_Re_35 rfl (by first | assumption | exact ga G (by decide) rfl | exact lgA LG (by omega)) (by first | assumption | (simp (disch := omega) only [pI_eq, pI_row, pI_col, va_up_self, va_up_ne, ne_eq, not_false_eq_true, h5] <;> rfl) | rfl) ?_
    | refine T_iload_n (pc1 := 18) (pc := 17) k_Re_addCode_17 rfl rfl ?_
    | refine T_iastN (pc1 := 19) (pc := 18) k_Re_addCode_18 rfl (by first | assumption | exact ga G (by decide) rfl | exact lgA LG (by omega)) (by omega) (by omega) ?_
    | refine T_aload_n (pc1 := 20) (pc := 19) k_Re_addCode_19 rfl rfl ?_
    | refine T_aload_nN (pc1 := 20) (pc := 19) k_Re_addCode_19 rfl rfl ?_
    | refine T_dup (pc1 := 21) (pc := 20) k_Re_addCode_20 rfl rfl ?_
    | refine T_getV (pc1 := 24) (pc := 21) k_Re_addCode_21 rfl f_Re_35 rfl (by first | assumption | exact ga G (by decide) rfl | exact lgA LG (by omega)) (by first | assumption | (simp (disch := omega) only [pI_eq, pI_row, pI_col, va_up_self, va_up_ne, ne_eq, not_false_eq_true, h5] <;> rfl) | rfl) ?_
    | refine T_iconst (v := (nI 1)) (pc1 := 25) (pc := 24) k_Re_addCode_24 rfl (by decide) ?_
    | with_reducible refine T_iaddN (pc1 := 26) (pc := 25) k_Re_addCode_25 (by decide) ?_
    | refine T_iadd (pc1 := 26) (pc := 25) k_Re_addCode_25 rfl ?_
    | refine T_putI (pc1 := 29) (pc := 26) k_Re_addCode_26 rfl f_Re_35 rfl (by first | assumption | exact ga G (by decide) rfl | exact lgA LG (by omega)) (by first | rfl | decide | assumption) (by first | rfl | decide | assumption) ?_)
  all_goals try (exfalso; omega)
  have q : ∀ k w, k ≠ 6 → pI (pI I 69 (pM p) v) 66 6 w 66 k = I 66 k := fun k w hk => by rw [pI_col hk, pI_row (by decide)]
  refine kk _ (fr_pI (fr_pI fr_rf (Or.inr rfl)) (Or.inl rfl)) ⟨⟨by rw [pI_row (by decide), pI_row (by decide)]; exact h0, fun k hk => by rw [pI_row (by decide), pI_row (by decide)]; exact h0' k hk⟩, (q _ _ (by decide)).trans h1, (q _ _ (by decide)).trans h2, (q _ _ (by decide)).trans h3, (q _ _ (by decide)).trans h4, pI_eq, (q _ _ (by decide)).trans h6, (q _ _ (by decide)).trans h7, (q _ _ (by decide)).trans h8, fun k hk => ?_⟩
  rw [pI_row (by decide)]
  show _ = trc (va_up (pC p) (pM p) c k)
  have hk : k < pM p + 1 := hk
  by_cases hkm : k = pM p
  · subst hkm; rw [pI_eq, va_up_self]; exact hv
  · rw [pI_col hkm, va_up_ne _ _ hkm]; exact h9 k (by omega)
theorem c_Re_addOperand {T : Row} {z key no op : Nat} {p : PS} {c v : Int32} (G : GeoOK g) (h : PCo T z key no op p I) (hm : pM p < 96) (hv : v = trc c) (kk : ∀ J, fre rdf I J → PCo T z key no op (ps1 (lf1 p) c) J → K none g J) : Cl 2 M_Re_addOperand [.ref 66, .int v] g I K := by
  show Rl 2 M_Re_addOperand 0 [some (.ref 66), some (.int v)] [] g I K
  repeat' (first
    | ((first | refine T_aload_n (pc1 := 1) (pc := 0) k_Re_addOperand_0 rfl rfl ?_ | refine T_aload_nN (pc1 := 1) (pc := 0) k_Re_addOperand_0 rfl rfl ?_) <;> try (refine T_iload_n (pc1 := 2) (pc := 1) k_Re_addOperand_1 rfl rfl ?_ <;> try ((refine T_cV (As := [_]) (d1 := 1) (pc1 := 5) (pc := 2) k_Re_addOperand_2 rfl (by decide) (Nat.le_of_ble_eq_true rfl) rfl o_Re_addCode l_Re_92 rfl (by first | assumption | exact ga G (by decide) rfl | exact lgA LG (by omega)) rfl (c_Re_addCode G h hm hv (fun J hJ hJP => ?_)) <;> try dsimp only [psh]))))
    | refine T_iload_n (pc1 := 2) (pc := 1) k_Re_addOperand_1 rfl rfl ?_
    | (refine T_cV (As := [_]) (d1 := 1) (pc1 := 5) (pc := 2) k_Re_addOperand_2 rfl (by decide) (Nat.le_of_ble_eq_true rfl) rfl o_Re_addCode l_Re_92 rfl (by first | assumption | exact ga G (by decide) rfl | exact lgA LG (by omega)) rfl (c_Re_addCode G h hm hv (fun J hJ hJP => ?_)) <;> try dsimp only [psh]))
  obtain ⟨⟨h0, h0'⟩, h1, h2, h3, h4, h5, h6, h7, h8, h9⟩ := hJP
  have h6 : J 66 7 = nI (pV p) := h6
  repeat' (first
    | ((first | refine T_aload_n (pc1 := 6) (pc := 5) k_Re_addOperand_5 rfl rfl ?_ | refine T_aload_nN (pc1 := 6) (pc := 5) k_Re_addOperand_5 rfl rfl ?_) <;> try (refine T_dup (pc1 := 7) (pc := 6) k_Re_addOperand_6 rfl rfl ?_ <;> try (refine T_getV (pc1 := 10) (pc := 7) k_Re_addOperand_7 rfl f_Re_38 rfl (by first | assumption | exact ga G (by decide) rfl | exact lgA LG (by omega)) (by first | assumption | (simp (disch := omega) only [pI_eq, pI_row, pI_col, va_up_self, va_up_ne, ne_eq, not_false_eq_true] <;> rfl) | rfl) ?_ <;> try (refine T_iconst (v := (nI 1)) (pc1 := 11) (pc := 10) k_Re_addOperand_10 rfl (by decide) ?_ <;> try ((first | with_reducible refine T_iaddN (pc1 := 12) (pc := 11) k_Re_addOperand_11 (by decide) ?_ | refine T_iadd (pc1 := 12) (pc := 11) k_Re_addOperand_11 rfl ?_) <;> try (refine T_putI (pc1 := 15) (pc := 12) k_Re_addOperand_12 rfl f_Re_38 rfl (by first | assumption | exact ga G (by decide) rfl | exact lgA LG (by omega)) (by first | rfl | decide | assumption) (by first | rfl | decide | assumption) ?_ <;> try (refine T_retV (pc := 15) k_Re_addOperand_15 rfl ?_)))))))
    | refine T_dup (pc1 := 7) (pc := 6) k_Re_addOperand_6 rfl rfl ?_
    | refine T_getV (pc1 := 10) (pc := 7) k_Re_addOperand_7 rfl f_Re_38 rfl (by first | assumption | exact ga G (by decide) rfl | exact lgA LG (by omega)) (by first | assumption | (simp (disch := omega) only [pI_eq, pI_row, pI_col, va_up_self, va_up_ne, ne_eq, not_false_eq_true] <;> rfl) | rfl) ?_
    | refine T_iconst (v := (nI 1)) (pc1 := 11) (pc := 10) k_Re_addOperand_10 rfl (by decide) ?_
    | with_reducible refine T_iaddN (pc1 := 12) (pc := 11) k_Re_addOperand_11 (by decide) ?_
    | refine T_iadd (pc1 := 12) (pc := 11) k_Re_addOperand_11 rfl ?_
    | refine T_putI (pc1 := 15) (pc := 12) k_Re_addOperand_12 rfl f_Re_38 rfl (by first | assumption | exact ga G (by decide) rfl | exact lgA LG (by omega)) (by first | rfl | decide | assumption) (by first | rfl | decide | assumption) ?_
    | refine T_retV (pc := 15) k_Re_addOperand_15 rfl ?_)
  exact kk _ (fr_pI hJ (Or.inl rfl)) ⟨⟨(pI_row (by decide)).trans h0, fun k hk => (pI_row (by decide)).trans (h0' k hk)⟩, (pI_col (by decide)).trans h1, (pI_col (by decide)).trans h2, (pI_col (by decide)).trans h3, (pI_col (by decide)).trans h4, (pI_col (by decide)).trans h5, pI_eq, (pI_col (by decide)).trans h7, (pI_col (by decide)).trans h8, fun k hk => (pI_row (by decide)).trans (h9 k hk)⟩
theorem c_Re_signsOf {m : Nat} (hm : m < 5) (kk : K (some (.ref (1000000 + (9 + m)))) g I) : Cl 1 M_Re_signsOf [.int (nI m)] g I K := by
  show Rl 1 M_Re_signsOf 0 [some (.int (nI m))] [] g I K
  obtain rfl | rfl | rfl | rfl | rfl : m = 0 ∨ m = 1 ∨ m = 2 ∨ m = 3 ∨ m = 4 := by omega
  all_goals
    repeat' (first
      | (refine T_iload_n (pc1 := 1) (pc := 0) k_Re_signsOf_0 rfl rfl ?_)
      | ((first | (with_reducible refine swN_Re_signsOf_1 (by omega) (fun hc => ?_) (fun hc => ?_) (fun hc => ?_) (fun hc => ?_) (fun hc => ?_) <;> first | (exfalso; omega) | skip) | refine sw_Re_signsOf_1 (fun hc => ?_) (fun hc => ?_) (fun hc => ?_) (fun hc => ?_) (fun hc => ?_)))
      | (refine T_ldcS (tx := "|") (j := 9) (pc1 := 34) (pc := 32) k_Re_signsOf_32 rfl s_Re_126 ?_ <;> try ((first | refine T_retA (pc := 34) k_Re_signsOf_34 rfl (by first | exact Or.inl ⟨_, rfl⟩ | exact Or.inr ⟨_, rfl⟩) ?_ | refine T_retN (pc := 34) k_Re_signsOf_34 rfl (by first | exact Or.inl ⟨_, rfl⟩ | exact Or.inr ⟨_, rfl⟩) ?_)))
      | (refine T_ldcS (tx := "&") (j := 10) (pc1 := 37) (pc := 35) k_Re_signsOf_35 rfl s_Re_128 ?_ <;> try ((first | refine T_retA (pc := 37) k_Re_signsOf_37 rfl (by first | exact Or.inl ⟨_, rfl⟩ | exact Or.inr ⟨_, rfl⟩) ?_ | refine T_retN (pc := 37) k_Re_signsOf_37 rfl (by first | exact Or.inl ⟨_, rfl⟩ | exact Or.inr ⟨_, rfl⟩) ?_)))
      | (refine T_ldcS (tx := "<=>") (j := 11) (pc1 := 40) (pc := 38) k_Re_signsOf_38 rfl s_Re_130 ?_ <;> try ((first | refine T_retA (pc := 40) k_Re_signsOf_40 rfl (by first | exact Or.inl ⟨_, rfl⟩ | exact Or.inr ⟨_, rfl⟩) ?_ | refine T_retN (pc := 40) k_Re_signsOf_40 rfl (by first | exact Or.inl ⟨_, rfl⟩ | exact Or.inr ⟨_, rfl⟩) ?_)))
      | (refine T_ldcS (tx := "+-") (j := 12) (pc1 := 43) (pc := 41) k_Re_signsOf_41 rfl s_Re_132 ?_ <;> try ((first | refine T_retA (pc := 43) k_Re_signsOf_43 rfl (by first | exact Or.inl ⟨_, rfl⟩ | exact Or.inr ⟨_, rfl⟩) ?_ | refine T_retN (pc := 43) k_Re_signsOf_43 rfl (by first | exact Or.inl ⟨_, rfl⟩ | exact Or.inr ⟨_, rfl⟩) ?_)))
      | (refine T_ldcS (tx := "*/") (j := 13) (pc1 := 46) (pc := 44) k_Re_signsOf_44 rfl s_Re_134 ?_ <;> try ((first | refine T_retA (pc := 46) k_Re_signsOf_46 rfl (by first | exact Or.inl ⟨_, rfl⟩ | exact Or.inr ⟨_, rfl⟩) ?_ | refine T_retN (pc := 46) k_Re_signsOf_46 rfl (by first | exact Or.inl ⟨_, rfl⟩ | exact Or.inr ⟨_, rfl⟩) ?_)))
      | refine T_retA (pc := 34) k_Re_signsOf_34 rfl (by first | exact Or.inl ⟨_, rfl⟩ | exact Or.inr ⟨_, rfl⟩) ?_
      | refine T_retN (pc := 34) k_Re_signsOf_34 rfl (by first | exact Or.inl ⟨_, rfl⟩ | exact Or.inr ⟨_, rfl⟩) ?_
      | refine T_retA (pc := 37) k_Re_signsOf_37 rfl (by first | exact Or.inl ⟨_, rfl⟩ | exact Or.inr ⟨_, rfl⟩) ?_
      | refine T_retN (pc := 37) k_Re_signsOf_37 rfl (by first | exact Or.inl ⟨_, rfl⟩ | exact Or.inr ⟨_, rfl⟩) ?_
      | refine T_retA (pc := 40) k_Re_signsOf_40 rfl (by first | exact Or.inl ⟨_, rfl⟩ | exact Or.inr ⟨_, rfl⟩) ?_
      | refine T_retN (pc := 40) k_Re_signsOf_40 rfl (by first | exact Or.inl ⟨_, rfl⟩ | exact Or.inr ⟨_, rfl⟩) ?_
      | refine T_retA (pc := 43) k_Re_signsOf_43 rfl (by first | exact Or.inl ⟨_, rfl⟩ | exact Or.inr ⟨_, rfl⟩) ?_
      | refine T_retN (pc := 43) k_Re_signsOf_43 rfl (by first | exact Or.inl ⟨_, rfl⟩ | exact Or.inr ⟨_, rfl⟩) ?_
      | refine T_retA (pc := 46) k_Re_signsOf_46 rfl (by first | exact Or.inl ⟨_, rfl⟩ | exact Or.inr ⟨_, rfl⟩) ?_
      | refine T_retN (pc := 46) k_Re_signsOf_46 rfl (by first | exact Or.inl ⟨_, rfl⟩ | exact Or.inr ⟨_, rfl⟩) ?_)
    all_goals first | exact kk | (exfalso; omega)
theorem c_Re_namesOf {m : Nat} (hm : m < 3) (kk : K (some (.ref (1000000 + (3 + m)))) g I) : Cl 1 M_Re_namesOf [.int (nI m)] g I K := by
  show Rl 1 M_Re_namesOf 0 [some (.int (nI m))] [] g I K
  obtain rfl | rfl | rfl : m = 0 ∨ m = 1 ∨ m = 2 := by omega
  all_goals
    repeat' (first
      | (refine T_iload_n (pc1 := 1) (pc := 0) k_Re_namesOf_0 rfl rfl ?_)
      | ((first | (with_reducible refine swN_Re_namesOf_1 (by omega) (fun hc => ?_) (fun hc => ?_) (fun hc => ?_) <;> first | (exfalso; omega) | skip) | refine sw_Re_namesOf_1 (fun hc => ?_) (fun hc => ?_) (fun hc => ?_)))
      | (refine T_ldcS (tx := "lwt") (j := 3) (pc1 := 30) (pc := 28) k_Re_namesOf_28 rfl s_Re_136 ?_ <;> try ((first | refine T_retA (pc := 30) k_Re_namesOf_30 rfl (by first | exact Or.inl ⟨_, rfl⟩ | exact Or.inr ⟨_, rfl⟩) ?_ | refine T_retN (pc := 30) k_Re_namesOf_30 rfl (by first | exact Or.inl ⟨_, rfl⟩ | exact Or.inr ⟨_, rfl⟩) ?_)))
      | (refine T_ldcS (tx := "sgk") (j := 4) (pc1 := 33) (pc := 31) k_Re_namesOf_31 rfl s_Re_138 ?_ <;> try ((first | refine T_retA (pc := 33) k_Re_namesOf_33 rfl (by first | exact Or.inl ⟨_, rfl⟩ | exact Or.inr ⟨_, rfl⟩) ?_ | refine T_retN (pc := 33) k_Re_namesOf_33 rfl (by first | exact Or.inl ⟨_, rfl⟩ | exact Or.inr ⟨_, rfl⟩) ?_)))
      | (refine T_ldcS (tx := "mw") (j := 5) (pc1 := 36) (pc := 34) k_Re_namesOf_34 rfl s_Re_140 ?_ <;> try ((first | refine T_retA (pc := 36) k_Re_namesOf_36 rfl (by first | exact Or.inl ⟨_, rfl⟩ | exact Or.inr ⟨_, rfl⟩) ?_ | refine T_retN (pc := 36) k_Re_namesOf_36 rfl (by first | exact Or.inl ⟨_, rfl⟩ | exact Or.inr ⟨_, rfl⟩) ?_)))
      | refine T_retA (pc := 30) k_Re_namesOf_30 rfl (by first | exact Or.inl ⟨_, rfl⟩ | exact Or.inr ⟨_, rfl⟩) ?_
      | refine T_retN (pc := 30) k_Re_namesOf_30 rfl (by first | exact Or.inl ⟨_, rfl⟩ | exact Or.inr ⟨_, rfl⟩) ?_
      | refine T_retA (pc := 33) k_Re_namesOf_33 rfl (by first | exact Or.inl ⟨_, rfl⟩ | exact Or.inr ⟨_, rfl⟩) ?_
      | refine T_retN (pc := 33) k_Re_namesOf_33 rfl (by first | exact Or.inl ⟨_, rfl⟩ | exact Or.inr ⟨_, rfl⟩) ?_
      | refine T_retA (pc := 36) k_Re_namesOf_36 rfl (by first | exact Or.inl ⟨_, rfl⟩ | exact Or.inr ⟨_, rfl⟩) ?_
      | refine T_retN (pc := 36) k_Re_namesOf_36 rfl (by first | exact Or.inl ⟨_, rfl⟩ | exact Or.inr ⟨_, rfl⟩) ?_)
    all_goals first | exact kk | (exfalso; omega)
theorem c_Re_isSignOf {T : Row} {z key no op j : Nat} {p : PS} (G : GeoOK g) (okt : okTp T z) (hj : j < 14) (h : PCo T z key no op p I) (hw : wfP T z p) (kt : pO p = 3 → ¬ idx j (T (pS p)) = none → K (some (.int (nI 1))) g I) (kf : pO p ≠ 3 ∨ idx j (T (pS p)) = none → K (some (.int (nI 0))) g I) : Cl 5 M_Re_isSignOf [.ref 66, .ref (1000000 + j)] g I K := by
  show Rl 5 M_Re_isSignOf 0 [some (.ref 66), some (.ref (1000000 + j))] [] g I K
  obtain ⟨⟨h0, h0'⟩, h1, h2, h3, -⟩ := id h
  have w2 := hw.2.1
  have w4 := hw.2.2.2.1
  have h96 := okt.1
  by_cases c3 : pO p = 3
  · have w5 := hw.2.2.1 (by omega)
    obtain ⟨b, hb, eb⟩ := rg_of (okt.2 (pS p) (by omega)) (by omega)
    have ev : I 68 (pS p) = nI b := (h0' _ (by omega)).trans eb
    have kt := kt c3
    rw [eb] at kt kf
    repeat' (first
      | ((first | refine T_aload_n (pc1 := 1) (pc := 0) k_Re_isSignOf_0 rfl rfl ?_ | refine T_aload_nN (pc1 := 1) (pc := 0) k_Re_isSignOf_0 rfl rfl ?_) <;> try (refine T_getV (pc1 := 4) (pc := 1) k_Re_isSignOf_1 rfl f_Re_25 rfl (by first | assumption | exact ga G (by decide) rfl | exact lgA LG (by omega)) (by first | assumption | (simp (disch := omega) only [pI_eq, pI_row, pI_col, va_up_self, va_up_ne, ne_eq, not_false_eq_true] <;> rfl) | rfl) ?_ <;> try (refine T_iconst (v := (nI 3)) (pc1 := 5) (pc := 4) k_Re_isSignOf_4 rfl (by decide) ?_ <;> try ((first | (with_reducible refine T_icmp_neN (tgt := 32) (pc1 := 8) (pc := 5) k_Re_isSignOf_5 (by decide) (by decide) (by omega) (by omega) (fun hc => ?_) (fun hc => ?_) <;> first | (exfalso; omega) | skip) | refine T_icmp_ne_t (tgt := 32) (pc := 5) k_Re_isSignOf_5 rfl (by decide) ?_ | refine T_icmp_ne_f (tgt := 32) (pc1 := 8) (pc := 5) k_Re_isSignOf_5 rfl rfl (by decide) ?_ | refine T_icmp_ne (tgt := 32) (pc1 := 8) (pc := 5) k_Re_isSignOf_5 rfl rfl (fun hc => ?_) (fun hc => ?_))))))
      | ((first | refine T_aload_n (pc1 := 9) (pc := 8) k_Re_isSignOf_8 rfl rfl ?_ | refine T_aload_nN (pc1 := 9) (pc := 8) k_Re_isSignOf_8 rfl rfl ?_) <;> try ((first | refine T_aload_n (pc1 := 10) (pc := 9) k_Re_isSignOf_9 rfl rfl ?_ | refine T_aload_nN (pc1 := 10) (pc := 9) k_Re_isSignOf_9 rfl rfl ?_) <;> try (refine T_getR (pc1 := 13) (pc := 10) k_Re_isSignOf_10 rfl f_Re_12 rfl (by first | assumption | exact ga G (by decide) rfl | exact lgA LG (by omega)) (by first | assumption | exact gr G (by decide) rfl | exact lgR LG (by omega)) ?_ <;> try (refine T_getR (pc1 := 16) (pc := 13) k_Re_isSignOf_13 rfl f_Re_89 rfl (by first | assumption | exact ga G (by decide) rfl | exact lgA LG (by omega)) (by first | assumption | exact gr G (by decide) rfl | exact lgR LG (by omega)) ?_ <;> try ((first | refine T_aload_n (pc1 := 17) (pc := 16) k_Re_isSignOf_16 rfl rfl ?_ | refine T_aload_nN (pc1 := 17) (pc := 16) k_Re_isSignOf_16 rfl rfl ?_) <;> try (refine T_getV (pc1 := 20) (pc := 17) k_Re_isSignOf_17 rfl f_Re_18 rfl (by first | assumption | exact ga G (by decide) rfl | exact lgA LG (by omega)) (by first | assumption | (simp (disch := omega) only [pI_eq, pI_row, pI_col, va_up_self, va_up_ne, ne_eq, not_false_eq_true] <;> rfl) | rfl) ?_ <;> try ((first | refine T_ialdN (pc1 := 21) (pc := 20) k_Re_isSignOf_20 rfl (by first | assumption | exact ga G (by decide) rfl | exact lgA LG (by omega)) (by omega) (by omega) (by first | assumption | (simp (disch := omega) only [pI_eq, pI_row, pI_col, va_up_self, va_up_ne, ne_eq, not_false_eq_true] <;> rfl) | rfl) ?_ | refine T_iald (pc1 := 21) (pc := 20) k_Re_isSignOf_20 rfl (by first | assumption | exact ga G (by decide) rfl | exact lgA LG (by omega)) (by assumption) ?_) <;> try ((refine T_i2c (pc1 := 22) (pc := 21) k_Re_isSignOf_21 rfl ?_; rw [i2c_b b hb]) <;> try ((refine T_cT (As := [_]) (d1 := 4) (pc1 := 25) (pc := 22) k_Re_isSignOf_22 rfl (by decide) (Nat.le_of_ble_eq_true rfl) rfl o_Js_indexOf l_Re_118 (by omega) rfl (c_Js_indexOf hj hb ?_) <;> try dsimp only [psh]))))))))))
      | (refine T_iconst (v := (nI 1)) (pc1 := 29) (pc := 28) k_Re_isSignOf_28 rfl (by decide) ?_ <;> try (refine T_goto (tgt := 33) (pc := 29) k_Re_isSignOf_29 rfl ?_))
      | (refine T_iconst (v := (nI 0)) (pc1 := 33) (pc := 32) k_Re_isSignOf_32 rfl (by decide) ?_)
      | (refine T_retI (pc := 33) k_Re_isSignOf_33 rfl (by first | rfl | decide | assumption) ?_)
      | refine T_getV (pc1 := 4) (pc := 1) k_Re_isSignOf_1 rfl f_Re_25 rfl (by first | assumption | exact ga G (by decide) rfl | exact lgA LG (by omega)) (by first | assumption | (simp (disch := omega) only [pI_eq, pI_row, pI_col, va_up_self, va_up_ne, ne_eq, not_false_eq_true] <;> rfl) | rfl) ?_
      | refine T_iconst (v := (nI 3)) (pc1 := 5) (pc := 4) k_Re_isSignOf_4 rfl (by decide) ?_
      | (with_reducible refine T_icmp_neN (tgt := 32) (pc1 := 8) (pc := 5) k_Re_isSignOf_5 (by decide) (by decide) (by omega) (by omega) (fun hc => ?_) (fun hc => ?_) <;> first | (exfalso; omega) | skip)
      | refine T_icmp_ne_t (tgt := 32) (pc := 5) k_Re_isSignOf_5 rfl (by decide) ?_
      | refine T_icmp_ne_f (tgt := 32) (pc1 := 8) (pc := 5) k_Re_isSignOf_5 rfl rfl (by decide) ?_
      | refine T_icmp_ne (tgt := 32) (pc1 := 8) (pc := 5) k_Re_isSignOf_5 rfl rfl (fun hc => ?_) (fun hc => ?_)
      | refine T_aload_n (pc1 := 10) (pc := 9) k_Re_isSignOf_9 rfl rfl ?_
      | refine T_aload_nN (pc1 := 10) (pc := 9) k_Re_isSignOf_9 rfl rfl ?_
      | refine T_getR (pc1 := 13) (pc := 10) k_Re_isSignOf_10 rfl f_Re_12 rfl (by first | assumption | exact ga G (by decide) rfl | exact lgA LG (by omega)) (by first | assumption | exact gr G (by decide) rfl | exact lgR LG (by omega)) ?_
      | refine T_getR (pc1 := 16) (pc := 13) k_Re_isSignOf_13 rfl f_Re_89 rfl (by first | assumption | exact ga G (by decide) rfl | exact lgA LG (by omega)) (by first | assumption | exact gr G (by decide) rfl | exact lgR LG (by omega)) ?_
      | refine T_aload_n (pc1 := 17) (pc := 16) k_Re_isSignOf_16 rfl rfl ?_
      | refine T_aload_nN (pc1 := 17) (pc := 16) k_Re_isSignOf_16 rfl rfl ?_
      | refine T_getV (pc1 := 20) (pc := 17) k_Re_isSignOf_17 rfl f_Re_18 rfl (by first | assumption | exact ga G (by decide) rfl | exact lgA LG (by omega)) (by first | assumption | (simp (disch := omega) only [pI_eq, pI_row, pI_col, va_up_self, va_up_ne, ne_eq, not_false_eq_true] <;> rfl) | rfl) ?_
      | refine T_ialdN (pc1 := 21) (pc := 20) k_Re_isSignOf_20 rfl (by first | assumption | exact ga G (by decide) rfl | exact lgA LG (by omega)) (by omega) (by omega) (by first | assumption | (simp (disch := omega) only [pI_eq, pI_row, pI_col, va_up_self, va_up_ne, ne_eq, not_false_eq_true] <;> rfl) | rfl) ?_
      | refine T_iald (pc1 := 21) (pc := 20) k_Re_isSignOf_20 rfl (by first | assumption | exact ga G (by decide) rfl | exact lgA LG (by omega)) (by assumption) ?_
      | (refine T_i2c (pc1 := 22) (pc := 21) k_Re_isSignOf_21 rfl ?_; rw [i2c_b b hb])
      | (refine T_cT (As := [_]) (d1 := 4) (pc1 := 25) (pc := 22) k_Re_isSignOf_22 rfl (by decide) (Nat.le_of_ble_eq_true rfl) rfl o_Js_indexOf l_Re_118 (by omega) rfl (c_Js_indexOf hj hb ?_) <;> try dsimp only [psh])
      | refine T_goto (tgt := 33) (pc := 29) k_Re_isSignOf_29 rfl ?_)
    all_goals try (exfalso; omega)
    cases hx : idx j (nI b) with
    | none =>
      rw [show opt1 none = -1 from rfl]
      repeat' (first
        | ((first | (with_reducible refine T_if_ltN (tgt := 32) (pc1 := 28) (pc := 25) k_Re_isSignOf_25 (by decide) (by decide) (by omega) ?_ <;> first | (exfalso; omega) | skip) | refine T_if_lt_t (tgt := 32) (pc := 25) k_Re_isSignOf_25 rfl (by decide) ?_ | refine T_if_lt_f (tgt := 32) (pc1 := 28) (pc := 25) k_Re_isSignOf_25 rfl rfl (by decide) ?_ | refine T_if_lt (tgt := 32) (pc1 := 28) (pc := 25) k_Re_isSignOf_25 rfl rfl (fun hc => ?_) (fun hc => ?_)))
        | (refine T_iconst (v := (nI 1)) (pc1 := 29) (pc := 28) k_Re_isSignOf_28 rfl (by decide) ?_ <;> try (refine T_goto (tgt := 33) (pc := 29) k_Re_isSignOf_29 rfl ?_))
        | (refine T_iconst (v := (nI 0)) (pc1 := 33) (pc := 32) k_Re_isSignOf_32 rfl (by decide) ?_)
        | (refine T_retI (pc := 33) k_Re_isSignOf_33 rfl (by first | rfl | decide | assumption) ?_)
        | refine T_goto (tgt := 33) (pc := 29) k_Re_isSignOf_29 rfl ?_)
      exact kf (Or.inr hx)
    | some i =>
      have hi := idx_lt hj hx
      rw [show opt1 (some i) = nI i from rfl]
      repeat' (first
        | ((first | (with_reducible refine T_if_ltN (tgt := 32) (pc1 := 28) (pc := 25) k_Re_isSignOf_25 (by decide) (by decide) (by omega) ?_ <;> first | (exfalso; omega) | skip) | refine T_if_lt_t (tgt := 32) (pc := 25) k_Re_isSignOf_25 rfl (by decide) ?_ | refine T_if_lt_f (tgt := 32) (pc1 := 28) (pc := 25) k_Re_isSignOf_25 rfl rfl (by decide) ?_ | refine T_if_lt (tgt := 32) (pc1 := 28) (pc := 25) k_Re_isSignOf_25 rfl rfl (fun hc => ?_) (fun hc => ?_)))
        | (refine T_iconst (v := (nI 1)) (pc1 := 29) (pc := 28) k_Re_isSignOf_28 rfl (by decide) ?_ <;> try (refine T_goto (tgt := 33) (pc := 29) k_Re_isSignOf_29 rfl ?_))
        | (refine T_iconst (v := (nI 0)) (pc1 := 33) (pc := 32) k_Re_isSignOf_32 rfl (by decide) ?_)
        | (refine T_retI (pc := 33) k_Re_isSignOf_33 rfl (by first | rfl | decide | assumption) ?_)
        | refine T_goto (tgt := 33) (pc := 29) k_Re_isSignOf_29 rfl ?_)
      exact kt (by rw [hx]; simp)
  · repeat' (first
      | ((first | refine T_aload_n (pc1 := 1) (pc := 0) k_Re_isSignOf_0 rfl rfl ?_ | refine T_aload_nN (pc1 := 1) (pc := 0) k_Re_isSignOf_0 rfl rfl ?_) <;> try (refine T_getV (pc1 := 4) (pc := 1) k_Re_isSignOf_1 rfl f_Re_25 rfl (by first | assumption | exact ga G (by decide) rfl | exact lgA LG (by omega)) (by first | assumption | (simp (disch := omega) only [pI_eq, pI_row, pI_col, va_up_self, va_up_ne, ne_eq, not_false_eq_true] <;> rfl) | rfl) ?_ <;> try (refine T_iconst (v := (nI 3)) (pc1 := 5) (pc := 4) k_Re_isSignOf_4 rfl (by decide) ?_ <;> try ((first | (with_reducible refine T_icmp_neN (tgt := 32) (pc1 := 8) (pc := 5) k_Re_isSignOf_5 (by decide) (by decide) (by omega) (by omega) (fun hc => ?_) (fun hc => ?_) <;> first | (exfalso; omega) | skip) | refine T_icmp_ne_t (tgt := 32) (pc := 5) k_Re_isSignOf_5 rfl (by decide) ?_ | refine T_icmp_ne_f (tgt := 32) (pc1 := 8) (pc := 5) k_Re_isSignOf_5 rfl rfl (by decide) ?_ | refine T_icmp_ne (tgt := 32) (pc1 := 8) (pc := 5) k_Re_isSignOf_5 rfl rfl (fun hc => ?_) (fun hc => ?_))))))
      | (refine T_iconst (v := (nI 0)) (pc1 := 33) (pc := 32) k_Re_isSignOf_32 rfl (by decide) ?_)
      | (refine T_retI (pc := 33) k_Re_isSignOf_33 rfl (by first | rfl | decide | assumption) ?_)
      | refine T_getV (pc1 := 4) (pc := 1) k_Re_isSignOf_1 rfl f_Re_25 rfl (by first | assumption | exact ga G (by decide) rfl | exact lgA LG (by omega)) (by first | assumption | (simp (disch := omega) only [pI_eq, pI_row, pI_col, va_up_self, va_up_ne, ne_eq, not_false_eq_true] <;> rfl) | rfl) ?_
      | refine T_iconst (v := (nI 3)) (pc1 := 5) (pc := 4) k_Re_isSignOf_4 rfl (by decide) ?_
      | (with_reducible refine T_icmp_neN (tgt := 32) (pc1 := 8) (pc := 5) k_Re_isSignOf_5 (by decide) (by decide) (by omega) (by omega) (fun hc => ?_) (fun hc => ?_) <;> first | (exfalso; omega) | skip)
      | refine T_icmp_ne_t (tgt := 32) (pc := 5) k_Re_isSignOf_5 rfl (by decide) ?_
      | refine T_icmp_ne_f (tgt := 32) (pc1 := 8) (pc := 5) k_Re_isSignOf_5 rfl rfl (by decide) ?_
      | refine T_icmp_ne (tgt := 32) (pc1 := 8) (pc := 5) k_Re_isSignOf_5 rfl rfl (fun hc => ?_) (fun hc => ?_))
    all_goals first | exact kf (Or.inl c3) | (exfalso; omega)
set_option maxHeartbeats 4000000 in
theorem c_Re_isWord {T : Row} {z j : Nat} {p : PS} (G : GeoOK g) (hF : g.1.2.2.category = 1) (okt : okTp T z) (hj : j < 14) (hT : CT I T z) (h1 : I 66 1 = nI (pS p)) (h2 : I 66 2 = nI (pE p)) (h3 : I 66 3 = nI (pO p)) (hw : wfP T z p) (kt : spl T p j = true → K (some (.int (nI 1))) g I) (kf : spl T p j = false → K (some (.int (nI 0))) g I) : Cl 5 M_Re_isWord [.ref 66, .ref (1000000 + j)] g I K := by
  show Rl 5 M_Re_isWord 0 [some (.ref 66), some (.ref (1000000 + j)), none] [] g I K
  obtain ⟨h0, h0'⟩ := id hT
  have h6 := str_l6 j hj
  have w1 := hw.1
  have w2 := hw.2.1
  have w4 := hw.2.2.2.1
  have h96 := okt.1
  unfold spl at kt kf
  generalize hL : (strs.getD j []).length = L at *
  by_cases c : pO p = 1 ∧ pE p - pS p = L
  · rw [decide_eq_true c, Bool.true_and] at kt kf
    obtain ⟨ca, cb⟩ := c
    have loop : ∀ q k, k + q = L → allB (fun i => decide (T (pS p + i) = (strs.getD j []).getD i 0)) k = true → Rl 5 M_Re_isWord 28 [some (.ref 66), some (.ref (1000000 + j)), some (.int (nI k))] [] g I K := by
      intro q
      induction q with
      | zero =>
        intro k hk hall
        have hk : k = L := by omega
        subst hk
        have kt := kt hall
        repeat' (first
          | (refine T_iload_n (pc1 := 29) (pc := 28) k_Re_isWord_28 rfl rfl ?_ <;> try ((first | refine T_aload_n (pc1 := 30) (pc := 29) k_Re_isWord_29 rfl rfl ?_ | refine T_aload_nN (pc1 := 30) (pc := 29) k_Re_isWord_29 rfl rfl ?_) <;> try ((refine T_cT (As := []) (d1 := 2) (pc1 := 33) (pc := 30) k_Re_isWord_30 rfl (by decide) (Nat.le_of_ble_eq_true rfl) rfl o_Js_length l_Re_142 (by omega) rfl (c_Js_len (by omega) hL ?_) <;> try dsimp only [psh]) <;> try ((first | (with_reducible refine T_icmp_geN (tgt := 66) (pc1 := 36) (pc := 33) k_Re_isWord_33 (by decide) (by decide) (by omega) (by omega) (fun hc => ?_) (fun hc => ?_) <;> first | (exfalso; omega) | skip) | refine T_icmp_ge_t (tgt := 66) (pc := 33) k_Re_isWord_33 rfl (by decide) ?_ | refine T_icmp_ge_f (tgt := 66) (pc1 := 36) (pc := 33) k_Re_isWord_33 rfl rfl (by decide) ?_ | refine T_icmp_ge (tgt := 66) (pc1 := 36) (pc := 33) k_Re_isWord_33 rfl rfl (fun hc => ?_) (fun hc => ?_))))))
          | (refine T_iconst (v := (nI 1)) (pc1 := 67) (pc := 66) k_Re_isWord_66 rfl (by decide) ?_ <;> try (refine T_retI (pc := 67) k_Re_isWord_67 rfl (by first | rfl | decide | assumption) ?_))
          | refine T_aload_n (pc1 := 30) (pc := 29) k_Re_isWord_29 rfl rfl ?_
          | refine T_aload_nN (pc1 := 30) (pc := 29) k_Re_isWord_29 rfl rfl ?_
          | (refine T_cT (As := []) (d1 := 2) (pc1 := 33) (pc := 30) k_Re_isWord_30 rfl (by decide) (Nat.le_of_ble_eq_true rfl) rfl o_Js_length l_Re_142 (by omega) rfl (c_Js_len (by omega) hL ?_) <;> try dsimp only [psh])
          | (with_reducible refine T_icmp_geN (tgt := 66) (pc1 := 36) (pc := 33) k_Re_isWord_33 (by decide) (by decide) (by omega) (by omega) (fun hc => ?_) (fun hc => ?_) <;> first | (exfalso; omega) | skip)
          | refine T_icmp_ge_t (tgt := 66) (pc := 33) k_Re_isWord_33 rfl (by decide) ?_
          | refine T_icmp_ge_f (tgt := 66) (pc1 := 36) (pc := 33) k_Re_isWord_33 rfl rfl (by decide) ?_
          | refine T_icmp_ge (tgt := 66) (pc1 := 36) (pc := 33) k_Re_isWord_33 rfl rfl (fun hc => ?_) (fun hc => ?_)
          | refine T_retI (pc := 67) k_Re_isWord_67 rfl (by first | rfl | decide | assumption) ?_)
        all_goals first | exact kt | (exfalso; omega)
      | succ q ih =>
        intro k hk hall
        have ih := ih (k + 1) (by omega)
        have e : I 68 (pS p + k) = T (pS p + k) := h0' _ (by omega)
        rw [allB, hall, Bool.true_and] at ih
        have no : ¬ T (pS p + k) = (strs.getD j []).getD k 0 → K (some (.int (nI 0))) g I := fun hne => kf (allB_f (k := k + 1) (by rw [allB, decide_eq_false hne, Bool.and_false]) L (by omega))
        refine T_iload_n (pc1 := 29) (pc := 28) k_Re_isWord_28 rfl rfl ?_
        repeat' (first
          | ((first | refine T_aload_n (pc1 := 30) (pc := 29) k_Re_isWord_29 rfl rfl ?_ | refine T_aload_nN (pc1 := 30) (pc := 29) k_Re_isWord_29 rfl rfl ?_) <;> try ((refine T_cT (As := []) (d1 := 2) (pc1 := 33) (pc := 30) k_Re_isWord_30 rfl (by decide) (Nat.le_of_ble_eq_true rfl) rfl o_Js_length l_Re_142 (by omega) rfl (c_Js_len (by omega) hL ?_) <;> try dsimp only [psh]) <;> try ((first | (with_reducible refine T_icmp_geN (tgt := 66) (pc1 := 36) (pc := 33) k_Re_isWord_33 (by decide) (by decide) (by omega) (by omega) (fun hc => ?_) (fun hc => ?_) <;> first | (exfalso; omega) | skip) | refine T_icmp_ge_t (tgt := 66) (pc := 33) k_Re_isWord_33 rfl (by decide) ?_ | refine T_icmp_ge_f (tgt := 66) (pc1 := 36) (pc := 33) k_Re_isWord_33 rfl rfl (by decide) ?_ | refine T_icmp_ge (tgt := 66) (pc1 := 36) (pc := 33) k_Re_isWord_33 rfl rfl (fun hc => ?_) (fun hc => ?_)))))
          | ((first | refine T_aload_n (pc1 := 37) (pc := 36) k_Re_isWord_36 rfl rfl ?_ | refine T_aload_nN (pc1 := 37) (pc := 36) k_Re_isWord_36 rfl rfl ?_) <;> try (refine T_getR (pc1 := 40) (pc := 37) k_Re_isWord_37 rfl f_Re_12 rfl (by first | assumption | exact ga G (by decide) rfl | exact lgA LG (by omega)) (by first | assumption | exact gr G (by decide) rfl | exact lgR LG (by omega)) ?_ <;> try (refine T_getR (pc1 := 43) (pc := 40) k_Re_isWord_40 rfl f_Re_89 rfl (by first | assumption | exact ga G (by decide) rfl | exact lgA LG (by omega)) (by first | assumption | exact gr G (by decide) rfl | exact lgR LG (by omega)) ?_ <;> try ((first | refine T_aload_n (pc1 := 44) (pc := 43) k_Re_isWord_43 rfl rfl ?_ | refine T_aload_nN (pc1 := 44) (pc := 43) k_Re_isWord_43 rfl rfl ?_) <;> try (refine T_getV (pc1 := 47) (pc := 44) k_Re_isWord_44 rfl f_Re_18 rfl (by first | assumption | exact ga G (by decide) rfl | exact lgA LG (by omega)) (by first | assumption | (simp (disch := omega) only [pI_eq, pI_row, pI_col, va_up_self, va_up_ne, ne_eq, not_false_eq_true] <;> rfl) | rfl) ?_ <;> try (refine T_iload_n (pc1 := 48) (pc := 47) k_Re_isWord_47 rfl rfl ?_ <;> try ((first | with_reducible refine T_iaddN (pc1 := 49) (pc := 48) k_Re_isWord_48 (by decide) ?_ | refine T_iadd (pc1 := 49) (pc := 48) k_Re_isWord_48 rfl ?_) <;> try ((first | refine T_ialdN (pc1 := 50) (pc := 49) k_Re_isWord_49 rfl (by first | assumption | exact ga G (by decide) rfl | exact lgA LG (by omega)) (by omega) (by omega) (by first | assumption | (simp (disch := omega) only [pI_eq, pI_row, pI_col, va_up_self, va_up_ne, ne_eq, not_false_eq_true] <;> rfl) | rfl) ?_ | refine T_iald (pc1 := 50) (pc := 49) k_Re_isWord_49 rfl (by first | assumption | exact ga G (by decide) rfl | exact lgA LG (by omega)) (by assumption) ?_) <;> try ((first | refine T_aload_n (pc1 := 51) (pc := 50) k_Re_isWord_50 rfl rfl ?_ | refine T_aload_nN (pc1 := 51) (pc := 50) k_Re_isWord_50 rfl rfl ?_) <;> try (refine T_iload_n (pc1 := 52) (pc := 51) k_Re_isWord_51 rfl rfl ?_ <;> try ((refine T_cT (As := [_]) (d1 := 4) (pc1 := 55) (pc := 52) k_Re_isWord_52 rfl (by decide) (Nat.le_of_ble_eq_true rfl) rfl o_Js_charAt l_Re_146 (by omega) rfl (c_Js_charAt hF (by omega) (by omega) ?_) <;> try dsimp only [psh]) <;> try (refine T_icmp_eq (tgt := 60) (pc1 := 58) (pc := 55) k_Re_isWord_55 rfl rfl (fun hcE => ?_) (fun hcE => ?_)))))))))))))
          | (refine T_iconst (v := (nI 0)) (pc1 := 59) (pc := 58) k_Re_isWord_58 rfl (by decide) ?_ <;> try (refine T_retI (pc := 59) k_Re_isWord_59 rfl (by first | rfl | decide | assumption) ?_))
          | ((first | refine T_iincN (b := 1) (pc1 := 63) (pc := 60) k_Re_isWord_60 rfl rfl (by decide) ?_ | refine T_iinc (v := (nI 1)) (pc1 := 63) (pc := 60) k_Re_isWord_60 rfl rfl (by decide) ?_) <;> try (refine T_goto (tgt := 28) (pc := 63) k_Re_isWord_63 rfl ?_))
          | (refine T_cT (As := []) (d1 := 2) (pc1 := 33) (pc := 30) k_Re_isWord_30 rfl (by decide) (Nat.le_of_ble_eq_true rfl) rfl o_Js_length l_Re_142 (by omega) rfl (c_Js_len (by omega) hL ?_) <;> try dsimp only [psh])
          | (with_reducible refine T_icmp_geN (tgt := 66) (pc1 := 36) (pc := 33) k_Re_isWord_33 (by decide) (by decide) (by omega) (by omega) (fun hc => ?_) (fun hc => ?_) <;> first | (exfalso; omega) | skip)
          | refine T_icmp_ge_t (tgt := 66) (pc := 33) k_Re_isWord_33 rfl (by decide) ?_
          | refine T_icmp_ge_f (tgt := 66) (pc1 := 36) (pc := 33) k_Re_isWord_33 rfl rfl (by decide) ?_
          | refine T_icmp_ge (tgt := 66) (pc1 := 36) (pc := 33) k_Re_isWord_33 rfl rfl (fun hc => ?_) (fun hc => ?_)
          | refine T_getR (pc1 := 40) (pc := 37) k_Re_isWord_37 rfl f_Re_12 rfl (by first | assumption | exact ga G (by decide) rfl | exact lgA LG (by omega)) (by first | assumption | exact gr G (by decide) rfl | exact lgR LG (by omega)) ?_
          | refine T_getR (pc1 := 43) (pc := 40) k_Re_isWord_40 rfl f_Re_89 rfl (by first | assumption | exact ga G (by decide) rfl | exact lgA LG (by omega)) (by first | assumption | exact gr G (by decide) rfl | exact lgR LG (by omega)) ?_
          | refine T_aload_n (pc1 := 44) (pc := 43) k_Re_isWord_43 rfl rfl ?_
          | refine T_aload_nN (pc1 := 44) (pc := 43) k_Re_isWord_43 rfl rfl ?_
          | refine T_getV (pc1 := 47) (pc := 44) k_Re_isWord_44 rfl f_Re_18 rfl (by first | assumption | exact ga G (by decide) rfl | exact lgA LG (by omega)) (by first | assumption | (simp (disch := omega) only [pI_eq, pI_row, pI_col, va_up_self, va_up_ne, ne_eq, not_false_eq_true] <;> rfl) | rfl) ?_
          | refine T_iload_n (pc1 := 48) (pc := 47) k_Re_isWord_47 rfl rfl ?_
          | with_reducible refine T_iaddN (pc1 := 49) (pc := 48) k_Re_isWord_48 (by decide) ?_
          | refine T_iadd (pc1 := 49) (pc := 48) k_Re_isWord_48 rfl ?_
          | refine T_ialdN (pc1 := 50) (pc := 49) k_Re_isWord_49 rfl (by first | assumption | exact ga G (by decide) rfl | exact lgA LG (by omega)) (by omega) (by omega) (by first | assumption | (simp (disch := omega) only [pI_eq, pI_row, pI_col, va_up_self, va_up_ne, ne_eq, not_false_eq_true] <;> rfl) | rfl) ?_
          | refine T_iald (pc1 := 50) (pc := 49) k_Re_isWord_49 rfl (by first | assumption | exact ga G (by decide) rfl | exact lgA LG (by omega)) (by assumption) ?_
          | refine T_aload_n (pc1 := 51) (pc := 50) k_Re_isWord_50 rfl rfl ?_
          | refine T_aload_nN (pc1 := 51) (pc := 50) k_Re_isWord_50 rfl rfl ?_
          | refine T_iload_n (pc1 := 52) (pc := 51) k_Re_isWord_51 rfl rfl ?_
          | (refine T_cT (As := [_]) (d1 := 4) (pc1 := 55) (pc := 52) k_Re_isWord_52 rfl (by decide) (Nat.le_of_ble_eq_true rfl) rfl o_Js_charAt l_Re_146 (by omega) rfl (c_Js_charAt hF (by omega) (by omega) ?_) <;> try dsimp only [psh])
          | refine T_icmp_eq (tgt := 60) (pc1 := 58) (pc := 55) k_Re_isWord_55 rfl rfl (fun hcE => ?_) (fun hcE => ?_)
          | refine T_retI (pc := 59) k_Re_isWord_59 rfl (by first | rfl | decide | assumption) ?_
          | refine T_goto (tgt := 28) (pc := 63) k_Re_isWord_63 rfl ?_)
        all_goals first | exact ih (decide_eq_true hcE) | exact no hcE | (exfalso; omega)
    repeat' (first
      | ((first | refine T_aload_n (pc1 := 1) (pc := 0) k_Re_isWord_0 rfl rfl ?_ | refine T_aload_nN (pc1 := 1) (pc := 0) k_Re_isWord_0 rfl rfl ?_) <;> try (refine T_getV (pc1 := 4) (pc := 1) k_Re_isWord_1 rfl f_Re_25 rfl (by first | assumption | exact ga G (by decide) rfl | exact lgA LG (by omega)) (by first | assumption | (simp (disch := omega) only [pI_eq, pI_row, pI_col, va_up_self, va_up_ne, ne_eq, not_false_eq_true] <;> rfl) | rfl) ?_ <;> try (refine T_iconst (v := (nI 1)) (pc1 := 5) (pc := 4) k_Re_isWord_4 rfl (by decide) ?_ <;> try ((first | (with_reducible refine T_icmp_neN (tgt := 24) (pc1 := 8) (pc := 5) k_Re_isWord_5 (by decide) (by decide) (by omega) (by omega) (fun hc => ?_) (fun hc => ?_) <;> first | (exfalso; omega) | skip) | refine T_icmp_ne_t (tgt := 24) (pc := 5) k_Re_isWord_5 rfl (by decide) ?_ | refine T_icmp_ne_f (tgt := 24) (pc1 := 8) (pc := 5) k_Re_isWord_5 rfl rfl (by decide) ?_ | refine T_icmp_ne (tgt := 24) (pc1 := 8) (pc := 5) k_Re_isWord_5 rfl rfl (fun hc => ?_) (fun hc => ?_))))))
      | ((first | refine T_aload_n (pc1 := 9) (pc := 8) k_Re_isWord_8 rfl rfl ?_ | refine T_aload_nN (pc1 := 9) (pc := 8) k_Re_isWord_8 rfl rfl ?_) <;> try (refine T_getV (pc1 := 12) (pc := 9) k_Re_isWord_9 rfl f_Re_22 rfl (by first | assumption | exact ga G (by decide) rfl | exact lgA LG (by omega)) (by first | assumption | (simp (disch := omega) only [pI_eq, pI_row, pI_col, va_up_self, va_up_ne, ne_eq, not_false_eq_true] <;> rfl) | rfl) ?_ <;> try ((first | refine T_aload_n (pc1 := 13) (pc := 12) k_Re_isWord_12 rfl rfl ?_ | refine T_aload_nN (pc1 := 13) (pc := 12) k_Re_isWord_12 rfl rfl ?_) <;> try (refine T_getV (pc1 := 16) (pc := 13) k_Re_isWord_13 rfl f_Re_18 rfl (by first | assumption | exact ga G (by decide) rfl | exact lgA LG (by omega)) (by first | assumption | (simp (disch := omega) only [pI_eq, pI_row, pI_col, va_up_self, va_up_ne, ne_eq, not_false_eq_true] <;> rfl) | rfl) ?_ <;> try ((first | with_reducible refine T_isubN (pc1 := 17) (pc := 16) k_Re_isWord_16 (by decide) (by omega) ?_ | refine T_isub (pc1 := 17) (pc := 16) k_Re_isWord_16 rfl ?_) <;> try ((first | refine T_aload_n (pc1 := 18) (pc := 17) k_Re_isWord_17 rfl rfl ?_ | refine T_aload_nN (pc1 := 18) (pc := 17) k_Re_isWord_17 rfl rfl ?_) <;> try ((refine T_cT (As := []) (d1 := 2) (pc1 := 21) (pc := 18) k_Re_isWord_18 rfl (by decide) (Nat.le_of_ble_eq_true rfl) rfl o_Js_length l_Re_142 (by omega) rfl (c_Js_len (by omega) hL ?_) <;> try dsimp only [psh]) <;> try ((first | (with_reducible refine T_icmp_eqN (tgt := 26) (pc1 := 24) (pc := 21) k_Re_isWord_21 (by decide) (by decide) (by omega) (by omega) (fun hc => ?_) (fun hc => ?_) <;> first | (exfalso; omega) | skip) | refine T_icmp_eq_t (tgt := 26) (pc := 21) k_Re_isWord_21 rfl (by decide) ?_ | refine T_icmp_eq_f (tgt := 26) (pc1 := 24) (pc := 21) k_Re_isWord_21 rfl rfl (by decide) ?_ | refine T_icmp_eq (tgt := 26) (pc1 := 24) (pc := 21) k_Re_isWord_21 rfl rfl (fun hc => ?_) (fun hc => ?_))))))))))
      | (refine T_iconst (v := (nI 0)) (pc1 := 25) (pc := 24) k_Re_isWord_24 rfl (by decide) ?_ <;> try (refine T_retI (pc := 25) k_Re_isWord_25 rfl (by first | rfl | decide | assumption) ?_))
      | (refine T_iconst (v := (nI 0)) (pc1 := 27) (pc := 26) k_Re_isWord_26 rfl (by decide) ?_ <;> try (refine T_istore_n (pc1 := 28) (pc := 27) k_Re_isWord_27 rfl (Nat.le_of_ble_eq_true rfl) ?_))
      | refine T_getV (pc1 := 4) (pc := 1) k_Re_isWord_1 rfl f_Re_25 rfl (by first | assumption | exact ga G (by decide) rfl | exact lgA LG (by omega)) (by first | assumption | (simp (disch := omega) only [pI_eq, pI_row, pI_col, va_up_self, va_up_ne, ne_eq, not_false_eq_true] <;> rfl) | rfl) ?_
      | refine T_iconst (v := (nI 1)) (pc1 := 5) (pc := 4) k_Re_isWord_4 rfl (by decide) ?_
      | (with_reducible refine T_icmp_neN (tgt := 24) (pc1 := 8) (pc := 5) k_Re_isWord_5 (by decide) (by decide) (by omega) (by omega) (fun hc => ?_) (fun hc => ?_) <;> first | (exfalso; omega) | skip)
      | refine T_icmp_ne_t (tgt := 24) (pc := 5) k_Re_isWord_5 rfl (by decide) ?_
      | refine T_icmp_ne_f (tgt := 24) (pc1 := 8) (pc := 5) k_Re_isWord_5 rfl rfl (by decide) ?_
      | refine T_icmp_ne (tgt := 24) (pc1 := 8) (pc := 5) k_Re_isWord_5 rfl rfl (fun hc => ?_) (fun hc => ?_)
      | refine T_getV (pc1 := 12) (pc := 9) k_Re_isWord_9 rfl f_Re_22 rfl (by first | assumption | exact ga G (by decide) rfl | exact lgA LG (by omega)) (by first | assumption | (simp (disch := omega) only [pI_eq, pI_row, pI_col, va_up_self, va_up_ne, ne_eq, not_false_eq_true] <;> rfl) | rfl) ?_
      | refine T_aload_n (pc1 := 13) (pc := 12) k_Re_isWord_12 rfl rfl ?_
      | refine T_aload_nN (pc1 := 13) (pc := 12) k_Re_isWord_12 rfl rfl ?_
      | refine T_getV (pc1 := 16) (pc := 13) k_Re_isWord_13 rfl f_Re_18 rfl (by first | assumption | exact ga G (by decide) rfl | exact lgA LG (by omega)) (by first | assumption | (simp (disch := omega) only [pI_eq, pI_row, pI_col, va_up_self, va_up_ne, ne_eq, not_false_eq_true] <;> rfl) | rfl) ?_
      | with_reducible refine T_isubN (pc1 := 17) (pc := 16) k_Re_isWord_16 (by decide) (by omega) ?_
      | refine T_isub (pc1 := 17) (pc := 16) k_Re_isWord_16 rfl ?_
      | refine T_aload_n (pc1 := 18) (pc := 17) k_Re_isWord_17 rfl rfl ?_
      | refine T_aload_nN (pc1 := 18) (pc := 17) k_Re_isWord_17 rfl rfl ?_
      | (refine T_cT (As := []) (d1 := 2) (pc1 := 21) (pc := 18) k_Re_isWord_18 rfl (by decide) (Nat.le_of_ble_eq_true rfl) rfl o_Js_length l_Re_142 (by omega) rfl (c_Js_len (by omega) hL ?_) <;> try dsimp only [psh])
      | (with_reducible refine T_icmp_eqN (tgt := 26) (pc1 := 24) (pc := 21) k_Re_isWord_21 (by decide) (by decide) (by omega) (by omega) (fun hc => ?_) (fun hc => ?_) <;> first | (exfalso; omega) | skip)
      | refine T_icmp_eq_t (tgt := 26) (pc := 21) k_Re_isWord_21 rfl (by decide) ?_
      | refine T_icmp_eq_f (tgt := 26) (pc1 := 24) (pc := 21) k_Re_isWord_21 rfl rfl (by decide) ?_
      | refine T_icmp_eq (tgt := 26) (pc1 := 24) (pc := 21) k_Re_isWord_21 rfl rfl (fun hc => ?_) (fun hc => ?_)
      | refine T_retI (pc := 25) k_Re_isWord_25 rfl (by first | rfl | decide | assumption) ?_
      | refine T_istore_n (pc1 := 28) (pc := 27) k_Re_isWord_27 rfl (Nat.le_of_ble_eq_true rfl) ?_)
    all_goals first | exact loop L 0 (by omega) rfl | (exfalso; omega)
  · rw [decide_eq_false c, Bool.false_and] at kf
    have kf := kf rfl
    repeat' (first
      | ((first | refine T_aload_n (pc1 := 1) (pc := 0) k_Re_isWord_0 rfl rfl ?_ | refine T_aload_nN (pc1 := 1) (pc := 0) k_Re_isWord_0 rfl rfl ?_) <;> try (refine T_getV (pc1 := 4) (pc := 1) k_Re_isWord_1 rfl f_Re_25 rfl (by first | assumption | exact ga G (by decide) rfl | exact lgA LG (by omega)) (by first | assumption | (simp (disch := omega) only [pI_eq, pI_row, pI_col, va_up_self, va_up_ne, ne_eq, not_false_eq_true] <;> rfl) | rfl) ?_ <;> try (refine T_iconst (v := (nI 1)) (pc1 := 5) (pc := 4) k_Re_isWord_4 rfl (by decide) ?_ <;> try ((first | (with_reducible refine T_icmp_neN (tgt := 24) (pc1 := 8) (pc := 5) k_Re_isWord_5 (by decide) (by decide) (by omega) (by omega) (fun hc => ?_) (fun hc => ?_) <;> first | (exfalso; omega) | skip) | refine T_icmp_ne_t (tgt := 24) (pc := 5) k_Re_isWord_5 rfl (by decide) ?_ | refine T_icmp_ne_f (tgt := 24) (pc1 := 8) (pc := 5) k_Re_isWord_5 rfl rfl (by decide) ?_ | refine T_icmp_ne (tgt := 24) (pc1 := 8) (pc := 5) k_Re_isWord_5 rfl rfl (fun hc => ?_) (fun hc => ?_))))))
      | ((first | refine T_aload_n (pc1 := 9) (pc := 8) k_Re_isWord_8 rfl rfl ?_ | refine T_aload_nN (pc1 := 9) (pc := 8) k_Re_isWord_8 rfl rfl ?_) <;> try (refine T_getV (pc1 := 12) (pc := 9) k_Re_isWord_9 rfl f_Re_22 rfl (by first | assumption | exact ga G (by decide) rfl | exact lgA LG (by omega)) (by first | assumption | (simp (disch := omega) only [pI_eq, pI_row, pI_col, va_up_self, va_up_ne, ne_eq, not_false_eq_true] <;> rfl) | rfl) ?_ <;> try ((first | refine T_aload_n (pc1 := 13) (pc := 12) k_Re_isWord_12 rfl rfl ?_ | refine T_aload_nN (pc1 := 13) (pc := 12) k_Re_isWord_12 rfl rfl ?_) <;> try (refine T_getV (pc1 := 16) (pc := 13) k_Re_isWord_13 rfl f_Re_18 rfl (by first | assumption | exact ga G (by decide) rfl | exact lgA LG (by omega)) (by first | assumption | (simp (disch := omega) only [pI_eq, pI_row, pI_col, va_up_self, va_up_ne, ne_eq, not_false_eq_true] <;> rfl) | rfl) ?_ <;> try ((first | with_reducible refine T_isubN (pc1 := 17) (pc := 16) k_Re_isWord_16 (by decide) (by omega) ?_ | refine T_isub (pc1 := 17) (pc := 16) k_Re_isWord_16 rfl ?_) <;> try ((first | refine T_aload_n (pc1 := 18) (pc := 17) k_Re_isWord_17 rfl rfl ?_ | refine T_aload_nN (pc1 := 18) (pc := 17) k_Re_isWord_17 rfl rfl ?_) <;> try ((refine T_cT (As := []) (d1 := 2) (pc1 := 21) (pc := 18) k_Re_isWord_18 rfl (by decide) (Nat.le_of_ble_eq_true rfl) rfl o_Js_length l_Re_142 (by omega) rfl (c_Js_len (by omega) hL ?_) <;> try dsimp only [psh]) <;> try ((first | (with_reducible refine T_icmp_eqN (tgt := 26) (pc1 := 24) (pc := 21) k_Re_isWord_21 (by decide) (by decide) (by omega) (by omega) (fun hc => ?_) (fun hc => ?_) <;> first | (exfalso; omega) | skip) | refine T_icmp_eq_t (tgt := 26) (pc := 21) k_Re_isWord_21 rfl (by decide) ?_ | refine T_icmp_eq_f (tgt := 26) (pc1 := 24) (pc := 21) k_Re_isWord_21 rfl rfl (by decide) ?_ | refine T_icmp_eq (tgt := 26) (pc1 := 24) (pc := 21) k_Re_isWord_21 rfl rfl (fun hc => ?_) (fun hc => ?_))))))))))
      | (refine T_iconst (v := (nI 0)) (pc1 := 25) (pc := 24) k_Re_isWord_24 rfl (by decide) ?_ <;> try (refine T_retI (pc := 25) k_Re_isWord_25 rfl (by first | rfl | decide | assumption) ?_))
      | refine T_getV (pc1 := 4) (pc := 1) k_Re_isWord_1 rfl f_Re_25 rfl (by first | assumption | exact ga G (by decide) rfl | exact lgA LG (by omega)) (by first | assumption | (simp (disch := omega) only [pI_eq, pI_row, pI_col, va_up_self, va_up_ne, ne_eq, not_false_eq_true] <;> rfl) | rfl) ?_
      | refine T_iconst (v := (nI 1)) (pc1 := 5) (pc := 4) k_Re_isWord_4 rfl (by decide) ?_
      | (with_reducible refine T_icmp_neN (tgt := 24) (pc1 := 8) (pc := 5) k_Re_isWord_5 (by decide) (by decide) (by omega) (by omega) (fun hc => ?_) (fun hc => ?_) <;> first | (exfalso; omega) | skip)
      | refine T_icmp_ne_t (tgt := 24) (pc := 5) k_Re_isWord_5 rfl (by decide) ?_
      | refine T_icmp_ne_f (tgt := 24) (pc1 := 8) (pc := 5) k_Re_isWord_5 rfl rfl (by decide) ?_
      | refine T_icmp_ne (tgt := 24) (pc1 := 8) (pc := 5) k_Re_isWord_5 rfl rfl (fun hc => ?_) (fun hc => ?_)
      | refine T_getV (pc1 := 12) (pc := 9) k_Re_isWord_9 rfl f_Re_22 rfl (by first | assumption | exact ga G (by decide) rfl | exact lgA LG (by omega)) (by first | assumption | (simp (disch := omega) only [pI_eq, pI_row, pI_col, va_up_self, va_up_ne, ne_eq, not_false_eq_true] <;> rfl) | rfl) ?_
      | refine T_aload_n (pc1 := 13) (pc := 12) k_Re_isWord_12 rfl rfl ?_
      | refine T_aload_nN (pc1 := 13) (pc := 12) k_Re_isWord_12 rfl rfl ?_
      | refine T_getV (pc1 := 16) (pc := 13) k_Re_isWord_13 rfl f_Re_18 rfl (by first | assumption | exact ga G (by decide) rfl | exact lgA LG (by omega)) (by first | assumption | (simp (disch := omega) only [pI_eq, pI_row, pI_col, va_up_self, va_up_ne, ne_eq, not_false_eq_true] <;> rfl) | rfl) ?_
      | with_reducible refine T_isubN (pc1 := 17) (pc := 16) k_Re_isWord_16 (by decide) (by omega) ?_
      | refine T_isub (pc1 := 17) (pc := 16) k_Re_isWord_16 rfl ?_
      | refine T_aload_n (pc1 := 18) (pc := 17) k_Re_isWord_17 rfl rfl ?_
      | refine T_aload_nN (pc1 := 18) (pc := 17) k_Re_isWord_17 rfl rfl ?_
      | (refine T_cT (As := []) (d1 := 2) (pc1 := 21) (pc := 18) k_Re_isWord_18 rfl (by decide) (Nat.le_of_ble_eq_true rfl) rfl o_Js_length l_Re_142 (by omega) rfl (c_Js_len (by omega) hL ?_) <;> try dsimp only [psh])
      | (with_reducible refine T_icmp_eqN (tgt := 26) (pc1 := 24) (pc := 21) k_Re_isWord_21 (by decide) (by decide) (by omega) (by omega) (fun hc => ?_) (fun hc => ?_) <;> first | (exfalso; omega) | skip)
      | refine T_icmp_eq_t (tgt := 26) (pc := 21) k_Re_isWord_21 rfl (by decide) ?_
      | refine T_icmp_eq_f (tgt := 26) (pc1 := 24) (pc := 21) k_Re_isWord_21 rfl rfl (by decide) ?_
      | refine T_icmp_eq (tgt := 26) (pc1 := 24) (pc := 21) k_Re_isWord_21 rfl rfl (fun hc => ?_) (fun hc => ?_)
      | refine T_retI (pc := 25) k_Re_isWord_25 rfl (by first | rfl | decide | assumption) ?_)
    all_goals first | exact kf | (exfalso; omega)
theorem trc_num {x : Nat} (hx : x < 100000) : nI x = trc (nI x) := by
  unfold trc
  rw [if_pos (nI_pos' (by omega))]
theorem trc_name : ∀ i, i < 3 → (-1 : Int32) - nI i = trc (-10 + nI i) := by decide +kernel
set_option maxHeartbeats 4000000 in
theorem c_Re_readsNumber {T : Row} {z key no op : Nat} {p : PS} (G : GeoOK g) (okt : okTp T z) (h : PCo T z key no op p I) (hw : wfP T z p) (hm : pM p < 96) (h2 : pO p = 2) (k0 : ∀ c J, lfC T key p = some c → fre rdf I J → PCo T z key no op (ps1 (lf1 (nx T z p)) c) J → K (some (.int (nI 1))) g J) (k1 : lfC T key p = none → K (some (.int (nI 0))) g I) : Cl 3 M_Re_readsNumber [.ref 66] g I K := by
  show Rl 3 M_Re_readsNumber 0 [some (.ref 66), none, none] [] g I K
  obtain ⟨⟨h0, h0'⟩, h1, h2b, h3, h4, h5, h6, h7, h8, h9⟩ := id h
  have w1 := hw.1
  have w2 := hw.2.1
  have h96 := okt.1
  by_cases c4 : pE p - pS p ≤ 4
  · have hc : lfC T key p = some (nI (num T (pS p) (pE p - pS p))) := by rw [lfC, if_pos ⟨h2, c4⟩]
    have hn := num_lt (s := pS p) okt (pE p - pS p) (fun j a b => hw.2.2.2.2 h2 j a (by omega))
    have : 10 ^ (pE p - pS p) ≤ 10 ^ 4 := Nat.pow_le_pow_right (by decide) c4
    have fin : ∀ o2, Rl 3 M_Re_readsNumber 54 [some (.ref 66), some (.int (nI (num T (pS p) (pE p - pS p)))), o2] [] g I K := by
      intro o2
      repeat' (first
        | ((first | refine T_aload_n (pc1 := 55) (pc := 54) k_Re_readsNumber_54 rfl rfl ?_ | refine T_aload_nN (pc1 := 55) (pc := 54) k_Re_readsNumber_54 rfl rfl ?_) <;> try (refine T_iload_n (pc1 := 56) (pc := 55) k_Re_readsNumber_55 rfl rfl ?_ <;> try ((refine T_cV (As := [_]) (d1 := 2) (pc1 := 59) (pc := 56) k_Re_readsNumber_56 rfl (by decide) (Nat.le_of_ble_eq_true rfl) rfl o_Re_addOperand l_Re_112 rfl (by first | assumption | exact ga G (by decide) rfl | exact lgA LG (by omega)) rfl (c_Re_addOperand G h hm (trc_num (by omega)) (fun J hJ hJP => ?_)) <;> try dsimp only [psh]) <;> try ((first | refine T_aload_n (pc1 := 60) (pc := 59) k_Re_readsNumber_59 rfl rfl ?_ | refine T_aload_nN (pc1 := 60) (pc := 59) k_Re_readsNumber_59 rfl rfl ?_)))))
        | refine T_iload_n (pc1 := 56) (pc := 55) k_Re_readsNumber_55 rfl rfl ?_
        | (refine T_cV (As := [_]) (d1 := 2) (pc1 := 59) (pc := 56) k_Re_readsNumber_56 rfl (by decide) (Nat.le_of_ble_eq_true rfl) rfl o_Re_addOperand l_Re_112 rfl (by first | assumption | exact ga G (by decide) rfl | exact lgA LG (by omega)) rfl (c_Re_addOperand G h hm (trc_num (by omega)) (fun J hJ hJP => ?_)) <;> try dsimp only [psh])
        | refine T_aload_n (pc1 := 60) (pc := 59) k_Re_readsNumber_59 rfl rfl ?_
        | refine T_aload_nN (pc1 := 60) (pc := 59) k_Re_readsNumber_59 rfl rfl ?_)
      repeat' (first
        | ((refine T_cV (As := []) (d1 := 2) (pc1 := 63) (pc := 60) k_Re_readsNumber_60 rfl (by decide) (Nat.le_of_ble_eq_true rfl) rfl o_Re_next l_Re_47 rfl (by first | assumption | exact ga G (by decide) rfl | exact lgA LG (by omega)) rfl (c_Re_nextO (p := ps1 (lf1 p) (nI (num T (pS p) (pE p - pS p)))) G okt hJP hw (fun J2 hJ2 hJ2P => ?_)) <;> try dsimp only [psh]) <;> try (refine T_iconst (v := (nI 1)) (pc1 := 64) (pc := 63) k_Re_readsNumber_63 rfl (by decide) ?_ <;> try (refine T_retI (pc := 64) k_Re_readsNumber_64 rfl (by first | rfl | decide | assumption) ?_)))
        | refine T_iconst (v := (nI 1)) (pc1 := 64) (pc := 63) k_Re_readsNumber_63 rfl (by decide) ?_
        | refine T_retI (pc := 64) k_Re_readsNumber_64 rfl (by first | rfl | decide | assumption) ?_)
      exact k0 _ J2 hc (fr_tr hJ hJ2) hJ2P
    have loop : ∀ q i, i + q = pE p - pS p → Rl 3 M_Re_readsNumber 22 [some (.ref 66), some (.int (nI (num T (pS p) i))), some (.int (nI (pS p + i)))] [] g I K := by
      intro q
      induction q with
      | zero =>
        intro i hi
        have hi : i = pE p - pS p := by omega
        subst hi
        repeat' (first
          | (refine T_iload_n (pc1 := 23) (pc := 22) k_Re_readsNumber_22 rfl rfl ?_ <;> try ((first | refine T_aload_n (pc1 := 24) (pc := 23) k_Re_readsNumber_23 rfl rfl ?_ | refine T_aload_nN (pc1 := 24) (pc := 23) k_Re_readsNumber_23 rfl rfl ?_) <;> try (refine T_getV (pc1 := 27) (pc := 24) k_Re_readsNumber_24 rfl f_Re_22 rfl (by first | assumption | exact ga G (by decide) rfl | exact lgA LG (by omega)) (by first | assumption | (simp (disch := omega) only [pI_eq, pI_row, pI_col, va_up_self, va_up_ne, ne_eq, not_false_eq_true] <;> rfl) | rfl) ?_ <;> try ((first | (with_reducible refine T_icmp_geN (tgt := 54) (pc1 := 30) (pc := 27) k_Re_readsNumber_27 (by decide) (by decide) (by omega) (by omega) (fun hc => ?_) (fun hc => ?_) <;> first | (exfalso; omega) | skip) | refine T_icmp_ge_t (tgt := 54) (pc := 27) k_Re_readsNumber_27 rfl (by decide) ?_ | refine T_icmp_ge_f (tgt := 54) (pc1 := 30) (pc := 27) k_Re_readsNumber_27 rfl rfl (by decide) ?_ | refine T_icmp_ge (tgt := 54) (pc1 := 30) (pc := 27) k_Re_readsNumber_27 rfl rfl (fun hc => ?_) (fun hc => ?_))))))
          | refine T_aload_n (pc1 := 24) (pc := 23) k_Re_readsNumber_23 rfl rfl ?_
          | refine T_aload_nN (pc1 := 24) (pc := 23) k_Re_readsNumber_23 rfl rfl ?_
          | refine T_getV (pc1 := 27) (pc := 24) k_Re_readsNumber_24 rfl f_Re_22 rfl (by first | assumption | exact ga G (by decide) rfl | exact lgA LG (by omega)) (by first | assumption | (simp (disch := omega) only [pI_eq, pI_row, pI_col, va_up_self, va_up_ne, ne_eq, not_false_eq_true] <;> rfl) | rfl) ?_
          | (with_reducible refine T_icmp_geN (tgt := 54) (pc1 := 30) (pc := 27) k_Re_readsNumber_27 (by decide) (by decide) (by omega) (by omega) (fun hc => ?_) (fun hc => ?_) <;> first | (exfalso; omega) | skip)
          | refine T_icmp_ge_t (tgt := 54) (pc := 27) k_Re_readsNumber_27 rfl (by decide) ?_
          | refine T_icmp_ge_f (tgt := 54) (pc1 := 30) (pc := 27) k_Re_readsNumber_27 rfl rfl (by decide) ?_
          | refine T_icmp_ge (tgt := 54) (pc1 := 30) (pc := 27) k_Re_readsNumber_27 rfl rfl (fun hc => ?_) (fun hc => ?_))
        all_goals first | exact fin _ | (exfalso; omega)
      | succ q ih =>
        intro i hi
        have hs2 := hw.2.2.2.2 h2 (pS p + i) (by omega) (by omega)
        obtain ⟨b, hb, eb⟩ := rg_of (okt.2 (pS p + i) (by omega)) (by omega)
        have hb2 : 48 ≤ b ∧ b ≤ 57 := by
          unfold srt byA at hs2
          rw [if_pos (by omega), eb] at hs2
          unfold sOf at hs2
          rw [nI_toInt (by omega)] at hs2
          repeat' split at hs2
          all_goals omega
        have e : I 68 (pS p + i) = nI b := (h0' _ (by omega)).trans eb
        have ih := ih (i + 1) (by omega)
        have en : num T (pS p) (i + 1) = num T (pS p) i * 10 + b - 48 := by
          rw [num, eb, nI_clamp (by omega)]
          omega
        rw [en] at ih
        generalize num T (pS p) i = A at *
        refine T_iload_n (pc1 := 23) (pc := 22) k_Re_readsNumber_22 rfl rfl ?_
        repeat' (first
          | ((first | refine T_aload_n (pc1 := 24) (pc := 23) k_Re_readsNumber_23 rfl rfl ?_ | refine T_aload_nN (pc1 := 24) (pc := 23) k_Re_readsNumber_23 rfl rfl ?_) <;> try (refine T_getV (pc1 := 27) (pc := 24) k_Re_readsNumber_24 rfl f_Re_22 rfl (by first | assumption | exact ga G (by decide) rfl | exact lgA LG (by omega)) (by first | assumption | (simp (disch := omega) only [pI_eq, pI_row, pI_col, va_up_self, va_up_ne, ne_eq, not_false_eq_true] <;> rfl) | rfl) ?_ <;> try ((first | (with_reducible refine T_icmp_geN (tgt := 54) (pc1 := 30) (pc := 27) k_Re_readsNumber_27 (by decide) (by decide) (by omega) (by omega) (fun hc => ?_) (fun hc => ?_) <;> first | (exfalso; omega) | skip) | refine T_icmp_ge_t (tgt := 54) (pc := 27) k_Re_readsNumber_27 rfl (by decide) ?_ | refine T_icmp_ge_f (tgt := 54) (pc1 := 30) (pc := 27) k_Re_readsNumber_27 rfl rfl (by decide) ?_ | refine T_icmp_ge (tgt := 54) (pc1 := 30) (pc := 27) k_Re_readsNumber_27 rfl rfl (fun hc => ?_) (fun hc => ?_)))))
          | (refine T_iload_n (pc1 := 31) (pc := 30) k_Re_readsNumber_30 rfl rfl ?_ <;> try (refine T_bipush (v := (nI 10)) (pc1 := 33) (pc := 31) k_Re_readsNumber_31 rfl (by decide) ?_ <;> try ((first | with_reducible refine T_imulN (pc1 := 34) (pc := 33) k_Re_readsNumber_33 (by decide) ?_ | refine T_imul (pc1 := 34) (pc := 33) k_Re_readsNumber_33 rfl ?_) <;> try ((first | refine T_aload_n (pc1 := 35) (pc := 34) k_Re_readsNumber_34 rfl rfl ?_ | refine T_aload_nN (pc1 := 35) (pc := 34) k_Re_readsNumber_34 rfl rfl ?_) <;> try (refine T_getR (pc1 := 38) (pc := 35) k_Re_readsNumber_35 rfl f_Re_12 rfl (by first | assumption | exact ga G (by decide) rfl | exact lgA LG (by omega)) (by first | assumption | exact gr G (by decide) rfl | exact lgR LG (by omega)) ?_ <;> try (refine T_getR (pc1 := 41) (pc := 38) k_Re_readsNumber_38 rfl f_Re_89 rfl (by first | assumption | exact ga G (by decide) rfl | exact lgA LG (by omega)) (by first | assumption | exact gr G (by decide) rfl | exact lgR LG (by omega)) ?_ <;> try (refine T_iload_n (pc1 := 42) (pc := 41) k_Re_readsNumber_41 rfl rfl ?_ <;> try ((first | refine T_ialdN (pc1 := 43) (pc := 42) k_Re_readsNumber_42 rfl (by first | assumption | exact ga G (by decide) rfl | exact lgA LG (by omega)) (by omega) (by omega) (by first | assumption | (simp (disch := omega) only [pI_eq, pI_row, pI_col, va_up_self, va_up_ne, ne_eq, not_false_eq_true] <;> rfl) | rfl) ?_ | refine T_iald (pc1 := 43) (pc := 42) k_Re_readsNumber_42 rfl (by first | assumption | exact ga G (by decide) rfl | exact lgA LG (by omega)) (by assumption) ?_) <;> try ((first | with_reducible refine T_iaddN (pc1 := 44) (pc := 43) k_Re_readsNumber_43 (by decide) ?_ | refine T_iadd (pc1 := 44) (pc := 43) k_Re_readsNumber_43 rfl ?_) <;> try (refine T_bipush (v := (nI 48)) (pc1 := 46) (pc := 44) k_Re_readsNumber_44 rfl (by decide) ?_ <;> try ((first | with_reducible refine T_isubN (pc1 := 47) (pc := 46) k_Re_readsNumber_46 (by decide) (by omega) ?_ | refine T_isub (pc1 := 47) (pc := 46) k_Re_readsNumber_46 rfl ?_) <;> try (refine T_istore_n (pc1 := 48) (pc := 47) k_Re_readsNumber_47 rfl (Nat.le_of_ble_eq_true rfl) ?_ <;> try ((first | refine T_iincN (b := 1) (pc1 := 51) (pc := 48) k_Re_readsNumber_48 rfl rfl (by decide) ?_ | refine T_iinc (v := (nI 1)) (pc1 := 51) (pc := 48) k_Re_readsNumber_48 rfl rfl (by decide) ?_) <;> try (refine T_goto (tgt := 22) (pc := 51) k_Re_readsNumber_51 rfl ?_))))))))))))))
          | refine T_getV (pc1 := 27) (pc := 24) k_Re_readsNumber_24 rfl f_Re_22 rfl (by first | assumption | exact ga G (by decide) rfl | exact lgA LG (by omega)) (by first | assumption | (simp (disch := omega) only [pI_eq, pI_row, pI_col, va_up_self, va_up_ne, ne_eq, not_false_eq_true] <;> rfl) | rfl) ?_
          | (with_reducible refine T_icmp_geN (tgt := 54) (pc1 := 30) (pc := 27) k_Re_readsNumber_27 (by decide) (by decide) (by omega) (by omega) (fun hc => ?_) (fun hc => ?_) <;> first | (exfalso; omega) | skip)
          | refine T_icmp_ge_t (tgt := 54) (pc := 27) k_Re_readsNumber_27 rfl (by decide) ?_
          | refine T_icmp_ge_f (tgt := 54) (pc1 := 30) (pc := 27) k_Re_readsNumber_27 rfl rfl (by decide) ?_
          | refine T_icmp_ge (tgt := 54) (pc1 := 30) (pc := 27) k_Re_readsNumber_27 rfl rfl (fun hc => ?_) (fun hc => ?_)
          | refine T_bipush (v := (nI 10)) (pc1 := 33) (pc := 31) k_Re_readsNumber_31 rfl (by decide) ?_
          | with_reducible refine T_imulN (pc1 := 34) (pc := 33) k_Re_readsNumber_33 (by decide) ?_
          | refine T_imul (pc1 := 34) (pc := 33) k_Re_readsNumber_33 rfl ?_
          | refine T_aload_n (pc1 := 35) (pc := 34) k_Re_readsNumber_34 rfl rfl ?_
          | refine T_aload_nN (pc1 := 35) (pc := 34) k_Re_readsNumber_34 rfl rfl ?_
          | refine T_getR (pc1 := 38) (pc := 35) k_Re_readsNumber_35 rfl f_Re_12 rfl (by first | assumption | exact ga G (by decide) rfl | exact lgA LG (by omega)) (by first | assumption | exact gr G (by decide) rfl | exact lgR LG (by omega)) ?_
          | refine T_getR (pc1 := 41) (pc := 38) k_Re_readsNumber_38 rfl f_Re_89 rfl (by first | assumption | exact ga G (by decide) rfl | exact lgA LG (by omega)) (by first | assumption | exact gr G (by decide) rfl | exact lgR LG (by omega)) ?_
          | refine T_iload_n (pc1 := 42) (pc := 41) k_Re_readsNumber_41 rfl rfl ?_
          | refine T_ialdN (pc1 := 43) (pc := 42) k_Re_readsNumber_42 rfl (by first | assumption | exact ga G (by decide) rfl | exact lgA LG (by omega)) (by omega) (by omega) (by first | assumption | (simp (disch := omega) only [pI_eq, pI_row, pI_col, va_up_self, va_up_ne, ne_eq, not_false_eq_true] <;> rfl) | rfl) ?_
          | refine T_iald (pc1 := 43) (pc := 42) k_Re_readsNumber_42 rfl (by first | assumption | exact ga G (by decide) rfl | exact lgA LG (by omega)) (by assumption) ?_
          | with_reducible refine T_iaddN (pc1 := 44) (pc := 43) k_Re_readsNumber_43 (by decide) ?_
          | refine T_iadd (pc1 := 44) (pc := 43) k_Re_readsNumber_43 rfl ?_
          | refine T_bipush (v := (nI 48)) (pc1 := 46) (pc := 44) k_Re_readsNumber_44 rfl (by decide) ?_
          | with_reducible refine T_isubN (pc1 := 47) (pc := 46) k_Re_readsNumber_46 (by decide) (by omega) ?_
          | refine T_isub (pc1 := 47) (pc := 46) k_Re_readsNumber_46 rfl ?_
          | refine T_istore_n (pc1 := 48) (pc := 47) k_Re_readsNumber_47 rfl (Nat.le_of_ble_eq_true rfl) ?_
          | refine T_iincN (b := 1) (pc1 := 51) (pc := 48) k_Re_readsNumber_48 rfl rfl (by decide) ?_
          | refine T_iinc (v := (nI 1)) (pc1 := 51) (pc := 48) k_Re_readsNumber_48 rfl rfl (by decide) ?_
          | refine T_goto (tgt := 22) (pc := 51) k_Re_readsNumber_51 rfl ?_)
        all_goals first | exact ih | (exfalso; omega)
    have l0 := loop (pE p - pS p) 0 (by omega)
    repeat' (first
      | ((first | refine T_aload_n (pc1 := 1) (pc := 0) k_Re_readsNumber_0 rfl rfl ?_ | refine T_aload_nN (pc1 := 1) (pc := 0) k_Re_readsNumber_0 rfl rfl ?_) <;> try (refine T_getV (pc1 := 4) (pc := 1) k_Re_readsNumber_1 rfl f_Re_22 rfl (by first | assumption | exact ga G (by decide) rfl | exact lgA LG (by omega)) (by first | assumption | (simp (disch := omega) only [pI_eq, pI_row, pI_col, va_up_self, va_up_ne, ne_eq, not_false_eq_true] <;> rfl) | rfl) ?_ <;> try ((first | refine T_aload_n (pc1 := 5) (pc := 4) k_Re_readsNumber_4 rfl rfl ?_ | refine T_aload_nN (pc1 := 5) (pc := 4) k_Re_readsNumber_4 rfl rfl ?_) <;> try (refine T_getV (pc1 := 8) (pc := 5) k_Re_readsNumber_5 rfl f_Re_18 rfl (by first | assumption | exact ga G (by decide) rfl | exact lgA LG (by omega)) (by first | assumption | (simp (disch := omega) only [pI_eq, pI_row, pI_col, va_up_self, va_up_ne, ne_eq, not_false_eq_true] <;> rfl) | rfl) ?_ <;> try ((first | with_reducible refine T_isubN (pc1 := 9) (pc := 8) k_Re_readsNumber_8 (by decide) (by omega) ?_ | refine T_isub (pc1 := 9) (pc := 8) k_Re_readsNumber_8 rfl ?_) <;> try (refine T_iconst (v := (nI 4)) (pc1 := 10) (pc := 9) k_Re_readsNumber_9 rfl (by decide) ?_ <;> try ((first | (with_reducible refine T_icmp_leN (tgt := 15) (pc1 := 13) (pc := 10) k_Re_readsNumber_10 (by decide) (by decide) (by omega) (by omega) (fun hc => ?_) (fun hc => ?_) <;> first | (exfalso; omega) | skip) | refine T_icmp_le_t (tgt := 15) (pc := 10) k_Re_readsNumber_10 rfl (by decide) ?_ | refine T_icmp_le_f (tgt := 15) (pc1 := 13) (pc := 10) k_Re_readsNumber_10 rfl rfl (by decide) ?_ | refine T_icmp_le (tgt := 15) (pc1 := 13) (pc := 10) k_Re_readsNumber_10 rfl rfl (fun hc => ?_) (fun hc => ?_)))))))))
      | (refine T_iconst (v := (nI 0)) (pc1 := 14) (pc := 13) k_Re_readsNumber_13 rfl (by decide) ?_ <;> try (refine T_retI (pc := 14) k_Re_readsNumber_14 rfl (by first | rfl | decide | assumption) ?_))
      | (refine T_iconst (v := (nI 0)) (pc1 := 16) (pc := 15) k_Re_readsNumber_15 rfl (by decide) ?_ <;> try (refine T_istore_n (pc1 := 17) (pc := 16) k_Re_readsNumber_16 rfl (Nat.le_of_ble_eq_true rfl) ?_ <;> try ((first | refine T_aload_n (pc1 := 18) (pc := 17) k_Re_readsNumber_17 rfl rfl ?_ | refine T_aload_nN (pc1 := 18) (pc := 17) k_Re_readsNumber_17 rfl rfl ?_) <;> try (refine T_getV (pc1 := 21) (pc := 18) k_Re_readsNumber_18 rfl f_Re_18 rfl (by first | assumption | exact ga G (by decide) rfl | exact lgA LG (by omega)) (by first | assumption | (simp (disch := omega) only [pI_eq, pI_row, pI_col, va_up_self, va_up_ne, ne_eq, not_false_eq_true] <;> rfl) | rfl) ?_ <;> try (refine T_istore_n (pc1 := 22) (pc := 21) k_Re_readsNumber_21 rfl (Nat.le_of_ble_eq_true rfl) ?_)))))
      | refine T_getV (pc1 := 4) (pc := 1) k_Re_readsNumber_1 rfl f_Re_22 rfl (by first | assumption | exact ga G (by decide) rfl | exact lgA LG (by omega)) (by first | assumption | (simp (disch := omega) only [pI_eq, pI_row, pI_col, va_up_self, va_up_ne, ne_eq, not_false_eq_true] <;> rfl) | rfl) ?_
      | refine T_aload_n (pc1 := 5) (pc := 4) k_Re_readsNumber_4 rfl rfl ?_
      | refine T_aload_nN (pc1 := 5) (pc := 4) k_Re_readsNumber_4 rfl rfl ?_
      | refine T_getV (pc1 := 8) (pc := 5) k_Re_readsNumber_5 rfl f_Re_18 rfl (by first | assumption | exact ga G (by decide) rfl | exact lgA LG (by omega)) (by first | assumption | (simp (disch := omega) only [pI_eq, pI_row, pI_col, va_up_self, va_up_ne, ne_eq, not_false_eq_true] <;> rfl) | rfl) ?_
      | with_reducible refine T_isubN (pc1 := 9) (pc := 8) k_Re_readsNumber_8 (by decide) (by omega) ?_
      | refine T_isub (pc1 := 9) (pc := 8) k_Re_readsNumber_8 rfl ?_
      | refine T_iconst (v := (nI 4)) (pc1 := 10) (pc := 9) k_Re_readsNumber_9 rfl (by decide) ?_
      | (with_reducible refine T_icmp_leN (tgt := 15) (pc1 := 13) (pc := 10) k_Re_readsNumber_10 (by decide) (by decide) (by omega) (by omega) (fun hc => ?_) (fun hc => ?_) <;> first | (exfalso; omega) | skip)
      | refine T_icmp_le_t (tgt := 15) (pc := 10) k_Re_readsNumber_10 rfl (by decide) ?_
      | refine T_icmp_le_f (tgt := 15) (pc1 := 13) (pc := 10) k_Re_readsNumber_10 rfl rfl (by decide) ?_
      | refine T_icmp_le (tgt := 15) (pc1 := 13) (pc := 10) k_Re_readsNumber_10 rfl rfl (fun hc => ?_) (fun hc => ?_)
      | refine T_retI (pc := 14) k_Re_readsNumber_14 rfl (by first | rfl | decide | assumption) ?_
      | refine T_istore_n (pc1 := 17) (pc := 16) k_Re_readsNumber_16 rfl (Nat.le_of_ble_eq_true rfl) ?_
      | refine T_aload_n (pc1 := 18) (pc := 17) k_Re_readsNumber_17 rfl rfl ?_
      | refine T_aload_nN (pc1 := 18) (pc := 17) k_Re_readsNumber_17 rfl rfl ?_
      | refine T_getV (pc1 := 21) (pc := 18) k_Re_readsNumber_18 rfl f_Re_18 rfl (by first | assumption | exact ga G (by decide) rfl | exact lgA LG (by omega)) (by first | assumption | (simp (disch := omega) only [pI_eq, pI_row, pI_col, va_up_self, va_up_ne, ne_eq, not_false_eq_true] <;> rfl) | rfl) ?_
      | refine T_istore_n (pc1 := 22) (pc := 21) k_Re_readsNumber_21 rfl (Nat.le_of_ble_eq_true rfl) ?_)
    all_goals first | (exfalso; omega) | exact l0
  · have k1 := k1 (by rw [lfC, if_neg (fun q => c4 q.2), if_neg (fun q => by omega)])
    repeat' (first
      | ((first | refine T_aload_n (pc1 := 1) (pc := 0) k_Re_readsNumber_0 rfl rfl ?_ | refine T_aload_nN (pc1 := 1) (pc := 0) k_Re_readsNumber_0 rfl rfl ?_) <;> try (refine T_getV (pc1 := 4) (pc := 1) k_Re_readsNumber_1 rfl f_Re_22 rfl (by first | assumption | exact ga G (by decide) rfl | exact lgA LG (by omega)) (by first | assumption | (simp (disch := omega) only [pI_eq, pI_row, pI_col, va_up_self, va_up_ne, ne_eq, not_false_eq_true] <;> rfl) | rfl) ?_ <;> try ((first | refine T_aload_n (pc1 := 5) (pc := 4) k_Re_readsNumber_4 rfl rfl ?_ | refine T_aload_nN (pc1 := 5) (pc := 4) k_Re_readsNumber_4 rfl rfl ?_) <;> try (refine T_getV (pc1 := 8) (pc := 5) k_Re_readsNumber_5 rfl f_Re_18 rfl (by first | assumption | exact ga G (by decide) rfl | exact lgA LG (by omega)) (by first | assumption | (simp (disch := omega) only [pI_eq, pI_row, pI_col, va_up_self, va_up_ne, ne_eq, not_false_eq_true] <;> rfl) | rfl) ?_ <;> try ((first | with_reducible refine T_isubN (pc1 := 9) (pc := 8) k_Re_readsNumber_8 (by decide) (by omega) ?_ | refine T_isub (pc1 := 9) (pc := 8) k_Re_readsNumber_8 rfl ?_) <;> try (refine T_iconst (v := (nI 4)) (pc1 := 10) (pc := 9) k_Re_readsNumber_9 rfl (by decide) ?_ <;> try ((first | (with_reducible refine T_icmp_leN (tgt := 15) (pc1 := 13) (pc := 10) k_Re_readsNumber_10 (by decide) (by decide) (by omega) (by omega) (fun hc => ?_) (fun hc => ?_) <;> first | (exfalso; omega) | skip) | refine T_icmp_le_t (tgt := 15) (pc := 10) k_Re_readsNumber_10 rfl (by decide) ?_ | refine T_icmp_le_f (tgt := 15) (pc1 := 13) (pc := 10) k_Re_readsNumber_10 rfl rfl (by decide) ?_ | refine T_icmp_le (tgt := 15) (pc1 := 13) (pc := 10) k_Re_readsNumber_10 rfl rfl (fun hc => ?_) (fun hc => ?_)))))))))
      | (refine T_iconst (v := (nI 0)) (pc1 := 14) (pc := 13) k_Re_readsNumber_13 rfl (by decide) ?_ <;> try (refine T_retI (pc := 14) k_Re_readsNumber_14 rfl (by first | rfl | decide | assumption) ?_))
      | refine T_getV (pc1 := 4) (pc := 1) k_Re_readsNumber_1 rfl f_Re_22 rfl (by first | assumption | exact ga G (by decide) rfl | exact lgA LG (by omega)) (by first | assumption | (simp (disch := omega) only [pI_eq, pI_row, pI_col, va_up_self, va_up_ne, ne_eq, not_false_eq_true] <;> rfl) | rfl) ?_
      | refine T_aload_n (pc1 := 5) (pc := 4) k_Re_readsNumber_4 rfl rfl ?_
      | refine T_aload_nN (pc1 := 5) (pc := 4) k_Re_readsNumber_4 rfl rfl ?_
      | refine T_getV (pc1 := 8) (pc := 5) k_Re_readsNumber_5 rfl f_Re_18 rfl (by first | assumption | exact ga G (by decide) rfl | exact lgA LG (by omega)) (by first | assumption | (simp (disch := omega) only [pI_eq, pI_row, pI_col, va_up_self, va_up_ne, ne_eq, not_false_eq_true] <;> rfl) | rfl) ?_
      | with_reducible refine T_isubN (pc1 := 9) (pc := 8) k_Re_readsNumber_8 (by decide) (by omega) ?_
      | refine T_isub (pc1 := 9) (pc := 8) k_Re_readsNumber_8 rfl ?_
      | refine T_iconst (v := (nI 4)) (pc1 := 10) (pc := 9) k_Re_readsNumber_9 rfl (by decide) ?_
      | (with_reducible refine T_icmp_leN (tgt := 15) (pc1 := 13) (pc := 10) k_Re_readsNumber_10 (by decide) (by decide) (by omega) (by omega) (fun hc => ?_) (fun hc => ?_) <;> first | (exfalso; omega) | skip)
      | refine T_icmp_le_t (tgt := 15) (pc := 10) k_Re_readsNumber_10 rfl (by decide) ?_
      | refine T_icmp_le_f (tgt := 15) (pc1 := 13) (pc := 10) k_Re_readsNumber_10 rfl rfl (by decide) ?_
      | refine T_icmp_le (tgt := 15) (pc1 := 13) (pc := 10) k_Re_readsNumber_10 rfl rfl (fun hc => ?_) (fun hc => ?_)
      | refine T_retI (pc := 14) k_Re_readsNumber_14 rfl (by first | rfl | decide | assumption) ?_)
    all_goals first | exact k1 | (exfalso; omega)
theorem c_Re_readsName {T : Row} {z key no op : Nat} {p : PS} (G : GeoOK g) (okt : okTp T z) (hk3 : key < 3) (h : PCo T z key no op p I) (hw : wfP T z p) (hm : pM p < 96) (h2 : pO p = 1) (k0 : ∀ c J, lfC T key p = some c → fre rdf I J → PCo T z key no op (ps1 (lf1 (nx T z p)) c) J → K (some (.int (nI 1))) g J) (k1 : lfC T key p = none → K (some (.int (nI 0))) g I) : Cl 5 M_Re_readsName [.ref 66] g I K := by
  show Rl 5 M_Re_readsName 0 [some (.ref 66), none] [] g I K
  obtain ⟨⟨h0, h0'⟩, h1, h2b, h3, h4, h5, h6, h7, h8, h9⟩ := id h
  have w1 := hw.1
  have w2 := hw.2.1
  have w3 := hw.2.2.1 (by omega)
  have h96 := okt.1
  by_cases c1 : pE p = pS p + 1
  · obtain ⟨b, hb, eb⟩ := rg_of (okt.2 (pS p) (by omega)) (by omega)
    have ev : I 68 (pS p) = nI b := (h0' _ (by omega)).trans eb
    have hlf : lfC T key p = (idx (3 + key) (nI b)).map (fun i => -10 + nI i) := by
      rw [lfC, if_neg (fun q => by omega), if_pos ⟨h2, c1⟩, eb]; rfl
    repeat' (first
      | ((first | refine T_aload_n (pc1 := 1) (pc := 0) k_Re_readsName_0 rfl rfl ?_ | refine T_aload_nN (pc1 := 1) (pc := 0) k_Re_readsName_0 rfl rfl ?_) <;> try (refine T_getV (pc1 := 4) (pc := 1) k_Re_readsName_1 rfl f_Re_22 rfl (by first | assumption | exact ga G (by decide) rfl | exact lgA LG (by omega)) (by first | assumption | (simp (disch := omega) only [pI_eq, pI_row, pI_col, va_up_self, va_up_ne, ne_eq, not_false_eq_true] <;> rfl) | rfl) ?_ <;> try ((first | refine T_aload_n (pc1 := 5) (pc := 4) k_Re_readsName_4 rfl rfl ?_ | refine T_aload_nN (pc1 := 5) (pc := 4) k_Re_readsName_4 rfl rfl ?_) <;> try (refine T_getV (pc1 := 8) (pc := 5) k_Re_readsName_5 rfl f_Re_18 rfl (by first | assumption | exact ga G (by decide) rfl | exact lgA LG (by omega)) (by first | assumption | (simp (disch := omega) only [pI_eq, pI_row, pI_col, va_up_self, va_up_ne, ne_eq, not_false_eq_true] <;> rfl) | rfl) ?_ <;> try ((first | with_reducible refine T_isubN (pc1 := 9) (pc := 8) k_Re_readsName_8 (by decide) (by omega) ?_ | refine T_isub (pc1 := 9) (pc := 8) k_Re_readsName_8 rfl ?_) <;> try (refine T_iconst (v := (nI 1)) (pc1 := 10) (pc := 9) k_Re_readsName_9 rfl (by decide) ?_ <;> try ((first | (with_reducible refine T_icmp_eqN (tgt := 15) (pc1 := 13) (pc := 10) k_Re_readsName_10 (by decide) (by decide) (by omega) (by omega) (fun hc => ?_) (fun hc => ?_) <;> first | (exfalso; omega) | skip) | refine T_icmp_eq_t (tgt := 15) (pc := 10) k_Re_readsName_10 rfl (by decide) ?_ | refine T_icmp_eq_f (tgt := 15) (pc1 := 13) (pc := 10) k_Re_readsName_10 rfl rfl (by decide) ?_ | refine T_icmp_eq (tgt := 15) (pc1 := 13) (pc := 10) k_Re_readsName_10 rfl rfl (fun hc => ?_) (fun hc => ?_)))))))))
      | (refine T_iconst (v := (nI 0)) (pc1 := 14) (pc := 13) k_Re_readsName_13 rfl (by decide) ?_ <;> try (refine T_retI (pc := 14) k_Re_readsName_14 rfl (by first | rfl | decide | assumption) ?_))
      | ((first | refine T_aload_n (pc1 := 16) (pc := 15) k_Re_readsName_15 rfl rfl ?_ | refine T_aload_nN (pc1 := 16) (pc := 15) k_Re_readsName_15 rfl rfl ?_) <;> try (refine T_getV (pc1 := 19) (pc := 16) k_Re_readsName_16 rfl f_Re_28 rfl (by first | assumption | exact ga G (by decide) rfl | exact lgA LG (by omega)) (by first | assumption | (simp (disch := omega) only [pI_eq, pI_row, pI_col, va_up_self, va_up_ne, ne_eq, not_false_eq_true] <;> rfl) | rfl) ?_ <;> try ((refine T_cS (As := [_]) (d1 := 1) (pc1 := 22) (pc := 19) k_Re_readsName_19 rfl (by decide) (Nat.le_of_ble_eq_true rfl) rfl o_Re_namesOf l_Re_115 rfl (c_Re_namesOf hk3 ?_) <;> try dsimp only [psh]) <;> try ((first | refine T_aload_n (pc1 := 23) (pc := 22) k_Re_readsName_22 rfl rfl ?_ | refine T_aload_nN (pc1 := 23) (pc := 22) k_Re_readsName_22 rfl rfl ?_) <;> try (refine T_getR (pc1 := 26) (pc := 23) k_Re_readsName_23 rfl f_Re_12 rfl (by first | assumption | exact ga G (by decide) rfl | exact lgA LG (by omega)) (by first | assumption | exact gr G (by decide) rfl | exact lgR LG (by omega)) ?_ <;> try (refine T_getR (pc1 := 29) (pc := 26) k_Re_readsName_26 rfl f_Re_89 rfl (by first | assumption | exact ga G (by decide) rfl | exact lgA LG (by omega)) (by first | assumption | exact gr G (by decide) rfl | exact lgR LG (by omega)) ?_ <;> try ((first | refine T_aload_n (pc1 := 30) (pc := 29) k_Re_readsName_29 rfl rfl ?_ | refine T_aload_nN (pc1 := 30) (pc := 29) k_Re_readsName_29 rfl rfl ?_) <;> try (refine T_getV (pc1 := 33) (pc := 30) k_Re_readsName_30 rfl f_Re_18 rfl (by first | assumption | exact ga G (by decide) rfl | exact lgA LG (by omega)) (by first | assumption | (simp (disch := omega) only [pI_eq, pI_row, pI_col, va_up_self, va_up_ne, ne_eq, not_false_eq_true] <;> rfl) | rfl) ?_ <;> try ((first | refine T_ialdN (pc1 := 34) (pc := 33) k_Re_readsName_33 rfl (by first | assumption | exact ga G (by decide) rfl | exact lgA LG (by omega)) (by omega) (by omega) (by first | assumption | (simp (disch := omega) only [pI_eq, pI_row, pI_col, va_up_self, va_up_ne, ne_eq, not_false_eq_true] <;> rfl) | rfl) ?_ | refine T_iald (pc1 := 34) (pc := 33) k_Re_readsName_33 rfl (by first | assumption | exact ga G (by decide) rfl | exact lgA LG (by omega)) (by assumption) ?_) <;> try ((refine T_i2c (pc1 := 35) (pc := 34) k_Re_readsName_34 rfl ?_; rw [i2c_b b hb]) <;> try ((refine T_cT (As := [_]) (j := 3 + key) (d1 := 4) (pc1 := 38) (pc := 35) k_Re_readsName_35 rfl (by decide) (Nat.le_of_ble_eq_true rfl) rfl o_Js_indexOf l_Re_118 (by omega) rfl (c_Js_indexOf (by omega) hb ?_) <;> try dsimp only [psh]))))))))))))
      | (refine T_iload_n (pc1 := 40) (pc := 39) k_Re_readsName_39 rfl rfl ?_ <;> try ((first | (with_reducible refine T_if_geN (tgt := 45) (pc1 := 43) (pc := 40) k_Re_readsName_40 (by decide) (by decide) (by omega) ?_ <;> first | (exfalso; omega) | skip) | refine T_if_ge_t (tgt := 45) (pc := 40) k_Re_readsName_40 rfl (by decide) ?_ | refine T_if_ge_f (tgt := 45) (pc1 := 43) (pc := 40) k_Re_readsName_40 rfl rfl (by decide) ?_ | refine T_if_ge (tgt := 45) (pc1 := 43) (pc := 40) k_Re_readsName_40 rfl rfl (fun hc => ?_) (fun hc => ?_))))
      | (refine T_iconst (v := (nI 0)) (pc1 := 44) (pc := 43) k_Re_readsName_43 rfl (by decide) ?_ <;> try (refine T_retI (pc := 44) k_Re_readsName_44 rfl (by first | rfl | decide | assumption) ?_))
      | ((first | refine T_aload_n (pc1 := 46) (pc := 45) k_Re_readsName_45 rfl rfl ?_ | refine T_aload_nN (pc1 := 46) (pc := 45) k_Re_readsName_45 rfl rfl ?_) <;> try (refine T_iconst (v := (-1)) (pc1 := 47) (pc := 46) k_Re_readsName_46 rfl (by decide) ?_ <;> try (refine T_iload_n (pc1 := 48) (pc := 47) k_Re_readsName_47 rfl rfl ?_ <;> try ((first | with_reducible refine T_isubN (pc1 := 49) (pc := 48) k_Re_readsName_48 (by decide) (by omega) ?_ | refine T_isub (pc1 := 49) (pc := 48) k_Re_readsName_48 rfl ?_)))))
      | ((first | refine T_aload_n (pc1 := 53) (pc := 52) k_Re_readsName_52 rfl rfl ?_ | refine T_aload_nN (pc1 := 53) (pc := 52) k_Re_readsName_52 rfl rfl ?_))
      | (refine T_iconst (v := (nI 1)) (pc1 := 57) (pc := 56) k_Re_readsName_56 rfl (by decide) ?_ <;> try (refine T_retI (pc := 57) k_Re_readsName_57 rfl (by first | rfl | decide | assumption) ?_))
      | refine T_getV (pc1 := 4) (pc := 1) k_Re_readsName_1 rfl f_Re_22 rfl (by first | assumption | exact ga G (by decide) rfl | exact lgA LG (by omega)) (by first | assumption | (simp (disch := omega) only [pI_eq, pI_row, pI_col, va_up_self, va_up_ne, ne_eq, not_false_eq_true] <;> rfl) | rfl) ?_
      | refine T_aload_n (pc1 := 5) (pc := 4) k_Re_readsName_4 rfl rfl ?_
      | refine T_aload_nN (pc1 := 5) (pc := 4) k_Re_readsName_4 rfl rfl ?_
      | refine T_getV (pc1 := 8) (pc := 5) k_Re_readsName_5 rfl f_Re_18 rfl (by first | assumption | exact ga G (by decide) rfl | exact lgA LG (by omega)) (by first | assumption | (simp (disch := omega) only [pI_eq, pI_row, pI_col, va_up_self, va_up_ne, ne_eq, not_false_eq_true] <;> rfl) | rfl) ?_
      | with_reducible refine T_isubN (pc1 := 9) (pc := 8) k_Re_readsName_8 (by decide) (by omega) ?_
      | refine T_isub (pc1 := 9) (pc := 8) k_Re_readsName_8 rfl ?_
      | refine T_iconst (v := (nI 1)) (pc1 := 10) (pc := 9) k_Re_readsName_9 rfl (by decide) ?_
      | (with_reducible refine T_icmp_eqN (tgt := 15) (pc1 := 13) (pc := 10) k_Re_readsName_10 (by decide) (by decide) (by omega) (by omega) (fun hc => ?_) (fun hc => ?_) <;> first | (exfalso; omega) | skip)
      | refine T_icmp_eq_t (tgt := 15) (pc := 10) k_Re_readsName_10 rfl (by decide) ?_
      | refine T_icmp_eq_f (tgt := 15) (pc1 := 13) (pc := 10) k_Re_readsName_10 rfl rfl (by decide) ?_
      | refine T_icmp_eq (tgt := 15) (pc1 := 13) (pc := 10) k_Re_readsName_10 rfl rfl (fun hc => ?_) (fun hc => ?_)
      | refine T_retI (pc := 14) k_Re_readsName_14 rfl (by first | rfl | decide | assumption) ?_
      | refine T_getV (pc1 := 19) (pc := 16) k_Re_readsName_16 rfl f_Re_28 rfl (by first | assumption | exact ga G (by decide) rfl | exact lgA LG (by omega)) (by first | assumption | (simp (disch := omega) only [pI_eq, pI_row, pI_col, va_up_self, va_up_ne, ne_eq, not_false_eq_true] <;> rfl) | rfl) ?_
      | (refine T_cS (As := [_]) (d1 := 1) (pc1 := 22) (pc := 19) k_Re_readsName_19 rfl (by decide) (Nat.le_of_ble_eq_true rfl) rfl o_Re_namesOf l_Re_115 rfl (c_Re_namesOf hk3 ?_) <;> try dsimp only [psh])
      | refine T_aload_n (pc1 := 23) (pc := 22) k_Re_readsName_22 rfl rfl ?_
      | refine T_aload_nN (pc1 := 23) (pc := 22) k_Re_readsName_22 rfl rfl ?_
      | refine T_getR (pc1 := 26) (pc := 23) k_Re_readsName_23 rfl f_Re_12 rfl (by first | assumption | exact ga G (by decide) rfl | exact lgA LG (by omega)) (by first | assumption | exact gr G (by decide) rfl | exact lgR LG (by omega)) ?_
      | refine T_getR (pc1 := 29) (pc := 26) k_Re_readsName_26 rfl f_Re_89 rfl (by first | assumption | exact ga G (by decide) rfl | exact lgA LG (by omega)) (by first | assumption | exact gr G (by decide) rfl | exact lgR LG (by omega)) ?_
      | refine T_aload_n (pc1 := 30) (pc := 29) k_Re_readsName_29 rfl rfl ?_
      | refine T_aload_nN (pc1 := 30) (pc := 29) k_Re_readsName_29 rfl rfl ?_
      | refine T_getV (pc1 := 33) (pc := 30) k_Re_readsName_30 rfl f_Re_18 rfl (by first | assumption | exact ga G (by decide) rfl | exact lgA LG (by omega)) (by first | assumption | (simp (disch := omega) only [pI_eq, pI_row, pI_col, va_up_self, va_up_ne, ne_eq, not_false_eq_true] <;> rfl) | rfl) ?_
      | refine T_ialdN (pc1 := 34) (pc := 33) k_Re_readsName_33 rfl (by first | assumption | exact ga G (by decide) rfl | exact lgA LG (by omega)) (by omega) (by omega) (by first | assumption | (simp (disch := omega) only [pI_eq, pI_row, pI_col, va_up_self, va_up_ne, ne_eq, not_false_eq_true] <;> rfl) | rfl) ?_
      | refine T_iald (pc1 := 34) (pc := 33) k_Re_readsName_33 rfl (by first | assumption | exact ga G (by decide) rfl | exact lgA LG (by omega)) (by assumption) ?_
      | (refine T_i2c (pc1 := 35) (pc := 34) k_Re_readsName_34 rfl ?_; rw [i2c_b b hb])
      | (refine T_cT (As := [_]) (j := 3 + key) (d1 := 4) (pc1 := 38) (pc := 35) k_Re_readsName_35 rfl (by decide) (Nat.le_of_ble_eq_true rfl) rfl o_Js_indexOf l_Re_118 (by omega) rfl (c_Js_indexOf (by omega) hb ?_) <;> try dsimp only [psh])
      | (with_reducible refine T_if_geN (tgt := 45) (pc1 := 43) (pc := 40) k_Re_readsName_40 (by decide) (by decide) (by omega) ?_ <;> first | (exfalso; omega) | skip)
      | refine T_if_ge_t (tgt := 45) (pc := 40) k_Re_readsName_40 rfl (by decide) ?_
      | refine T_if_ge_f (tgt := 45) (pc1 := 43) (pc := 40) k_Re_readsName_40 rfl rfl (by decide) ?_
      | refine T_if_ge (tgt := 45) (pc1 := 43) (pc := 40) k_Re_readsName_40 rfl rfl (fun hc => ?_) (fun hc => ?_)
      | refine T_retI (pc := 44) k_Re_readsName_44 rfl (by first | rfl | decide | assumption) ?_
      | refine T_iconst (v := (-1)) (pc1 := 47) (pc := 46) k_Re_readsName_46 rfl (by decide) ?_
      | refine T_iload_n (pc1 := 48) (pc := 47) k_Re_readsName_47 rfl rfl ?_
      | with_reducible refine T_isubN (pc1 := 49) (pc := 48) k_Re_readsName_48 (by decide) (by omega) ?_
      | refine T_isub (pc1 := 49) (pc := 48) k_Re_readsName_48 rfl ?_
      | refine T_retI (pc := 57) k_Re_readsName_57 rfl (by first | rfl | decide | assumption) ?_)
    all_goals try (exfalso; omega)
    cases hx : idx (3 + key) (nI b) with
    | none =>
      rw [hx] at hlf
      have k1 := k1 hlf
      rw [show opt1 none = -1 from rfl]
      repeat' (first
        | (refine T_istore_n (pc1 := 39) (pc := 38) k_Re_readsName_38 rfl (Nat.le_of_ble_eq_true rfl) ?_ <;> try (refine T_iload_n (pc1 := 40) (pc := 39) k_Re_readsName_39 rfl rfl ?_ <;> try ((first | (with_reducible refine T_if_geN (tgt := 45) (pc1 := 43) (pc := 40) k_Re_readsName_40 (by decide) (by decide) (by omega) ?_ <;> first | (exfalso; omega) | skip) | refine T_if_ge_t (tgt := 45) (pc := 40) k_Re_readsName_40 rfl (by decide) ?_ | refine T_if_ge_f (tgt := 45) (pc1 := 43) (pc := 40) k_Re_readsName_40 rfl rfl (by decide) ?_ | refine T_if_ge (tgt := 45) (pc1 := 43) (pc := 40) k_Re_readsName_40 rfl rfl (fun hc => ?_) (fun hc => ?_)))))
        | (refine T_iconst (v := (nI 0)) (pc1 := 44) (pc := 43) k_Re_readsName_43 rfl (by decide) ?_ <;> try (refine T_retI (pc := 44) k_Re_readsName_44 rfl (by first | rfl | decide | assumption) ?_))
        | refine T_iload_n (pc1 := 40) (pc := 39) k_Re_readsName_39 rfl rfl ?_
        | (with_reducible refine T_if_geN (tgt := 45) (pc1 := 43) (pc := 40) k_Re_readsName_40 (by decide) (by decide) (by omega) ?_ <;> first | (exfalso; omega) | skip)
        | refine T_if_ge_t (tgt := 45) (pc := 40) k_Re_readsName_40 rfl (by decide) ?_
        | refine T_if_ge_f (tgt := 45) (pc1 := 43) (pc := 40) k_Re_readsName_40 rfl rfl (by decide) ?_
        | refine T_if_ge (tgt := 45) (pc1 := 43) (pc := 40) k_Re_readsName_40 rfl rfl (fun hc => ?_) (fun hc => ?_)
        | refine T_retI (pc := 44) k_Re_readsName_44 rfl (by first | rfl | decide | assumption) ?_)
      exact k1
    | some i =>
      rw [hx] at hlf
      have hlf : lfC T key p = some (-10 + nI i) := hlf
      have hi := nmI_lt hk3 (show nmI key (nI b) = some i from hx)
      have := nn_le key
      rw [show opt1 (some i) = nI i from rfl]
      repeat' (first
        | (refine T_istore_n (pc1 := 39) (pc := 38) k_Re_readsName_38 rfl (Nat.le_of_ble_eq_true rfl) ?_ <;> try (refine T_iload_n (pc1 := 40) (pc := 39) k_Re_readsName_39 rfl rfl ?_ <;> try ((first | (with_reducible refine T_if_geN (tgt := 45) (pc1 := 43) (pc := 40) k_Re_readsName_40 (by decide) (by decide) (by omega) ?_ <;> first | (exfalso; omega) | skip) | refine T_if_ge_t (tgt := 45) (pc := 40) k_Re_readsName_40 rfl (by decide) ?_ | refine T_if_ge_f (tgt := 45) (pc1 := 43) (pc := 40) k_Re_readsName_40 rfl rfl (by decide) ?_ | refine T_if_ge (tgt := 45) (pc1 := 43) (pc := 40) k_Re_readsName_40 rfl rfl (fun hc => ?_) (fun hc => ?_)))))
        | (refine T_iconst (v := (nI 0)) (pc1 := 44) (pc := 43) k_Re_readsName_43 rfl (by decide) ?_ <;> try (refine T_retI (pc := 44) k_Re_readsName_44 rfl (by first | rfl | decide | assumption) ?_))
        | ((first | refine T_aload_n (pc1 := 46) (pc := 45) k_Re_readsName_45 rfl rfl ?_ | refine T_aload_nN (pc1 := 46) (pc := 45) k_Re_readsName_45 rfl rfl ?_) <;> try (refine T_iconst (v := (-1)) (pc1 := 47) (pc := 46) k_Re_readsName_46 rfl (by decide) ?_ <;> try (refine T_iload_n (pc1 := 48) (pc := 47) k_Re_readsName_47 rfl rfl ?_ <;> try (refine T_isub (pc1 := 49) (pc := 48) k_Re_readsName_48 rfl ?_ <;> try ((refine T_cV (As := [_]) (d1 := 2) (pc1 := 52) (pc := 49) k_Re_readsName_49 rfl (by decide) (Nat.le_of_ble_eq_true rfl) rfl o_Re_addOperand l_Re_112 rfl (by first | assumption | exact ga G (by decide) rfl | exact lgA LG (by omega)) rfl (c_Re_addOperand G h hm (trc_name i (by omega)) (fun J hJ hJP => ?_)) <;> try dsimp only [psh]))))))
        | refine T_iload_n (pc1 := 40) (pc := 39) k_Re_readsName_39 rfl rfl ?_
        | (with_reducible refine T_if_geN (tgt := 45) (pc1 := 43) (pc := 40) k_Re_readsName_40 (by decide) (by decide) (by omega) ?_ <;> first | (exfalso; omega) | skip)
        | refine T_if_ge_t (tgt := 45) (pc := 40) k_Re_readsName_40 rfl (by decide) ?_
        | refine T_if_ge_f (tgt := 45) (pc1 := 43) (pc := 40) k_Re_readsName_40 rfl rfl (by decide) ?_
        | refine T_if_ge (tgt := 45) (pc1 := 43) (pc := 40) k_Re_readsName_40 rfl rfl (fun hc => ?_) (fun hc => ?_)
        | refine T_retI (pc := 44) k_Re_readsName_44 rfl (by first | rfl | decide | assumption) ?_
        | refine T_iconst (v := (-1)) (pc1 := 47) (pc := 46) k_Re_readsName_46 rfl (by decide) ?_
        | refine T_iload_n (pc1 := 48) (pc := 47) k_Re_readsName_47 rfl rfl ?_
        | refine T_isub (pc1 := 49) (pc := 48) k_Re_readsName_48 rfl ?_
        | (refine T_cV (As := [_]) (d1 := 2) (pc1 := 52) (pc := 49) k_Re_readsName_49 rfl (by decide) (Nat.le_of_ble_eq_true rfl) rfl o_Re_addOperand l_Re_112 rfl (by first | assumption | exact ga G (by decide) rfl | exact lgA LG (by omega)) rfl (c_Re_addOperand G h hm (trc_name i (by omega)) (fun J hJ hJP => ?_)) <;> try dsimp only [psh]))
      all_goals try (exfalso; omega)
      repeat' (first
        | ((first | refine T_aload_n (pc1 := 53) (pc := 52) k_Re_readsName_52 rfl rfl ?_ | refine T_aload_nN (pc1 := 53) (pc := 52) k_Re_readsName_52 rfl rfl ?_) <;> try ((refine T_cV (As := []) (d1 := 2) (pc1 := 56) (pc := 53) k_Re_readsName_53 rfl (by decide) (Nat.le_of_ble_eq_true rfl) rfl o_Re_next l_Re_47 rfl (by first | assumption | exact ga G (by decide) rfl | exact lgA LG (by omega)) rfl (c_Re_nextO (p := ps1 (lf1 p) (-10 + nI i)) G okt hJP hw (fun J2 hJ2 hJ2P => ?_)) <;> try dsimp only [psh]) <;> try (refine T_iconst (v := (nI 1)) (pc1 := 57) (pc := 56) k_Re_readsName_56 rfl (by decide) ?_ <;> try (refine T_retI (pc := 57) k_Re_readsName_57 rfl (by first | rfl | decide | assumption) ?_))))
        | (refine T_cV (As := []) (d1 := 2) (pc1 := 56) (pc := 53) k_Re_readsName_53 rfl (by decide) (Nat.le_of_ble_eq_true rfl) rfl o_Re_next l_Re_47 rfl (by first | assumption | exact ga G (by decide) rfl | exact lgA LG (by omega)) rfl (c_Re_nextO (p := ps1 (lf1 p) (-10 + nI i)) G okt hJP hw (fun J2 hJ2 hJ2P => ?_)) <;> try dsimp only [psh])
        | refine T_iconst (v := (nI 1)) (pc1 := 57) (pc := 56) k_Re_readsName_56 rfl (by decide) ?_
        | refine T_retI (pc := 57) k_Re_readsName_57 rfl (by first | rfl | decide | assumption) ?_)
      exact k0 _ J2 hlf (fr_tr hJ hJ2) hJ2P
  · have k1 := k1 (by rw [lfC, if_neg (fun q => by omega), if_neg (fun q => c1 q.2)])
    repeat' (first
      | ((first | refine T_aload_n (pc1 := 1) (pc := 0) k_Re_readsName_0 rfl rfl ?_ | refine T_aload_nN (pc1 := 1) (pc := 0) k_Re_readsName_0 rfl rfl ?_) <;> try (refine T_getV (pc1 := 4) (pc := 1) k_Re_readsName_1 rfl f_Re_22 rfl (by first | assumption | exact ga G (by decide) rfl | exact lgA LG (by omega)) (by first | assumption | (simp (disch := omega) only [pI_eq, pI_row, pI_col, va_up_self, va_up_ne, ne_eq, not_false_eq_true] <;> rfl) | rfl) ?_ <;> try ((first | refine T_aload_n (pc1 := 5) (pc := 4) k_Re_readsName_4 rfl rfl ?_ | refine T_aload_nN (pc1 := 5) (pc := 4) k_Re_readsName_4 rfl rfl ?_) <;> try (refine T_getV (pc1 := 8) (pc := 5) k_Re_readsName_5 rfl f_Re_18 rfl (by first | assumption | exact ga G (by decide) rfl | exact lgA LG (by omega)) (by first | assumption | (simp (disch := omega) only [pI_eq, pI_row, pI_col, va_up_self, va_up_ne, ne_eq, not_false_eq_true] <;> rfl) | rfl) ?_ <;> try ((first | with_reducible refine T_isubN (pc1 := 9) (pc := 8) k_Re_readsName_8 (by decide) (by omega) ?_ | refine T_isub (pc1 := 9) (pc := 8) k_Re_readsName_8 rfl ?_) <;> try (refine T_iconst (v := (nI 1)) (pc1 := 10) (pc := 9) k_Re_readsName_9 rfl (by decide) ?_ <;> try ((first | (with_reducible refine T_icmp_eqN (tgt := 15) (pc1 := 13) (pc := 10) k_Re_readsName_10 (by decide) (by decide) (by omega) (by omega) (fun hc => ?_) (fun hc => ?_) <;> first | (exfalso; omega) | skip) | refine T_icmp_eq_t (tgt := 15) (pc := 10) k_Re_readsName_10 rfl (by decide) ?_ | refine T_icmp_eq_f (tgt := 15) (pc1 := 13) (pc := 10) k_Re_readsName_10 rfl rfl (by decide) ?_ | refine T_icmp_eq (tgt := 15) (pc1 := 13) (pc := 10) k_Re_readsName_10 rfl rfl (fun hc => ?_) (fun hc => ?_)))))))))
      | (refine T_iconst (v := (nI 0)) (pc1 := 14) (pc := 13) k_Re_readsName_13 rfl (by decide) ?_ <;> try (refine T_retI (pc := 14) k_Re_readsName_14 rfl (by first | rfl | decide | assumption) ?_))
      | refine T_getV (pc1 := 4) (pc := 1) k_Re_readsName_1 rfl f_Re_22 rfl (by first | assumption | exact ga G (by decide) rfl | exact lgA LG (by omega)) (by first | assumption | (simp (disch := omega) only [pI_eq, pI_row, pI_col, va_up_self, va_up_ne, ne_eq, not_false_eq_true] <;> rfl) | rfl) ?_
      | refine T_aload_n (pc1 := 5) (pc := 4) k_Re_readsName_4 rfl rfl ?_
      | refine T_aload_nN (pc1 := 5) (pc := 4) k_Re_readsName_4 rfl rfl ?_
      | refine T_getV (pc1 := 8) (pc := 5) k_Re_readsName_5 rfl f_Re_18 rfl (by first | assumption | exact ga G (by decide) rfl | exact lgA LG (by omega)) (by first | assumption | (simp (disch := omega) only [pI_eq, pI_row, pI_col, va_up_self, va_up_ne, ne_eq, not_false_eq_true] <;> rfl) | rfl) ?_
      | with_reducible refine T_isubN (pc1 := 9) (pc := 8) k_Re_readsName_8 (by decide) (by omega) ?_
      | refine T_isub (pc1 := 9) (pc := 8) k_Re_readsName_8 rfl ?_
      | refine T_iconst (v := (nI 1)) (pc1 := 10) (pc := 9) k_Re_readsName_9 rfl (by decide) ?_
      | (with_reducible refine T_icmp_eqN (tgt := 15) (pc1 := 13) (pc := 10) k_Re_readsName_10 (by decide) (by decide) (by omega) (by omega) (fun hc => ?_) (fun hc => ?_) <;> first | (exfalso; omega) | skip)
      | refine T_icmp_eq_t (tgt := 15) (pc := 10) k_Re_readsName_10 rfl (by decide) ?_
      | refine T_icmp_eq_f (tgt := 15) (pc1 := 13) (pc := 10) k_Re_readsName_10 rfl rfl (by decide) ?_
      | refine T_icmp_eq (tgt := 15) (pc1 := 13) (pc := 10) k_Re_readsName_10 rfl rfl (fun hc => ?_) (fun hc => ?_)
      | refine T_retI (pc := 14) k_Re_readsName_14 rfl (by first | rfl | decide | assumption) ?_)
    all_goals first | exact k1 | (exfalso; omega)
end R2
