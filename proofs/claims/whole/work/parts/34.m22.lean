/-! The model: tokens, leaves. -/
section M22
variable {g : Geo} {I : IM} {K : Option Value → Geo → IM → Prop}
def PMo (T : Row) (z key no op : Nat) (p : PS) (I : IM) : Prop := I 108 = T ∧ I 101 8 = nI z ∧ I 101 11 = nI (pS p) ∧ I 101 12 = nI (pE p) ∧ I 101 13 = nI (pO p) ∧ I 101 14 = nI 0 ∧ I 101 15 = nI key ∧ I 101 16 = nI op ∧ I 101 17 = nI no ∧ I 101 18 = nI (pV p) ∧ I 101 19 = nI (pM p) ∧ I 111 = pC p
def PMw (T : Row) (z key : Nat) (p : PS) (I : IM) : Prop := I 108 = T ∧ I 101 8 = nI z ∧ I 101 11 = nI (pS p) ∧ I 101 12 = nI (pE p) ∧ I 101 13 = nI (pO p) ∧ I 101 14 = nI 1 ∧ I 101 15 = nI key
def FrM (I J : IM) : Prop := eqx [101, 111] I J ∧ ∀ k, (k < 11 ∨ 19 < k) → J 101 k = I 101 k
theorem FrM_rf {I : IM} : FrM I I := ⟨eqx_rf, fun _ _ => rfl⟩
theorem FrM_tr {I J L : IM} (h1 : FrM I J) (h2 : FrM J L) : FrM I L := ⟨eqx_tr h1.1 h2.1, fun k hk => (h2.2 k hk).trans (h1.2 k hk)⟩
theorem FrM_p {I J : IM} {k : Nat} {v : Int32} (h : FrM I J) (hk : 11 ≤ k ∧ k ≤ 19) : FrM I (pI J 101 k v) := ⟨eqx_pI h.1 _ (by decide), fun j hj => by rw [pI_col (by omega)]; exact h.2 j hj⟩
theorem PMw_p {T : Row} {z key : Nat} {p : PS} {I : IM} {k : Nat} {v : Int32} (h : PMw T z key p I) (hk : 16 ≤ k) : PMw T z key p (pI I 101 k v) := by
  obtain ⟨h1, h2, h3, h4, h5, h6, h7⟩ := h
  exact ⟨(pI_rw (by decide)).trans h1, (pI_col (by omega)).trans h2, (pI_col (by omega)).trans h3, (pI_col (by omega)).trans h4, (pI_col (by omega)).trans h5, (pI_col (by omega)).trans h6, (pI_col (by omega)).trans h7⟩
theorem PMo_no {T : Row} {z key no no' op : Nat} {p : PS} {I : IM} (h : PMo T z key no op p I) : PMo T z key no' op p (pI I 101 17 (nI no')) := by
  obtain ⟨h1, h2, h3, h4, h5, h6, h7, h8, h9, h10, h11, h12⟩ := h
  exact ⟨(pI_rw (by decide)).trans h1, (pI_col (by omega)).trans h2, (pI_col (by omega)).trans h3, (pI_col (by omega)).trans h4, (pI_col (by omega)).trans h5, (pI_col (by omega)).trans h6, (pI_col (by omega)).trans h7, (pI_col (by omega)).trans h8, pI_eq, (pI_col (by omega)).trans h10, (pI_col (by omega)).trans h11, (pI_rw (by decide)).trans h12⟩
theorem PMo_op {T : Row} {z key no op op' : Nat} {p : PS} {I : IM} (h : PMo T z key no op p I) : PMo T z key no op' p (pI I 101 16 (nI op')) := by
  obtain ⟨h1, h2, h3, h4, h5, h6, h7, h8, h9, h10, h11, h12⟩ := h
  exact ⟨(pI_rw (by decide)).trans h1, (pI_col (by omega)).trans h2, (pI_col (by omega)).trans h3, (pI_col (by omega)).trans h4, (pI_col (by omega)).trans h5, (pI_col (by omega)).trans h6, (pI_col (by omega)).trans h7, pI_eq, (pI_col (by omega)).trans h9, (pI_col (by omega)).trans h10, (pI_col (by omega)).trans h11, (pI_rw (by decide)).trans h12⟩
theorem PMo_lf {T : Row} {z key no op : Nat} {p : PS} {I : IM} (h : PMo T z key no op p I) : PMo T z key no op (lf1 p) (pI I 101 18 (nI (pV p + 1))) := by
  obtain ⟨h1, h2, h3, h4, h5, h6, h7, h8, h9, h10, h11, h12⟩ := h
  exact ⟨(pI_rw (by decide)).trans h1, (pI_col (by omega)).trans h2, (pI_col (by omega)).trans h3, (pI_col (by omega)).trans h4, (pI_col (by omega)).trans h5, (pI_col (by omega)).trans h6, (pI_col (by omega)).trans h7, (pI_col (by omega)).trans h8, (pI_col (by omega)).trans h9, pI_eq, (pI_col (by omega)).trans h11, (pI_rw (by decide)).trans h12⟩
theorem c_M_must1 {T : Row} {z key no op : Nat} {p : PS} (G : GeoOK g) (okt : okTp T z) (h : PMo T z key no op p I) (hw : wfP T z p) (kk : ∀ J, FrM I J → PMo T z key no op (nx T z p) J → K none g J) : Cl 4 M_M_must [.ref 101, .int (nI 1)] g I K := by
  show Rl 4 M_M_must 0 [some (.ref 101), some (.int (nI 1))] [] g I K
  obtain ⟨h1, h2, h3, h4, h5, h6, h7, h8, h9, h10, h11, h12⟩ := h
  repeat' (first
    | refine T_aload_n (pc1 := 1) (pc := 0) k_M_must_0 rfl rfl ?_
    | refine T_aload_nN (pc1 := 1) (pc := 0) k_M_must_0 rfl rfl ?_
    | refine T_aload_n (pc1 := 2) (pc := 1) k_M_must_1 rfl rfl ?_
    | refine T_aload_nN (pc1 := 2) (pc := 1) k_M_must_1 rfl rfl ?_
    | refine T_getV (pc1 := 5) (pc := 2) k_M_must_2 rfl f_M_225 rfl (by first | exact ga G (by decide) rfl | assumption) (by first | assumption | (simp (disch := omega) only [pI_eq, pI_row, pI_col, va_up_self, va_up_ne, ne_eq, not_false_eq_true] <;> rfl) | rfl) ?_
    | (with_reducible refine T_if_neN (tgt := 12) (pc1 := 8) (pc := 5) k_M_must_5 (by decide) (by decide) (by omega) (fun hc => ?_) (fun hc => ?_) <;> first | (exfalso; omega) | skip)
    | refine T_if_ne_t (tgt := 12) (pc := 5) k_M_must_5 rfl (by decide) ?_
    | refine T_if_ne_f (tgt := 12) (pc1 := 8) (pc := 5) k_M_must_5 rfl rfl (by decide) ?_
    | refine T_if_ne (tgt := 12) (pc1 := 8) (pc := 5) k_M_must_5 rfl rfl (fun hc => ?_) (fun hc => ?_)
    | refine T_iload_n (pc1 := 9) (pc := 8) k_M_must_8 rfl rfl ?_
    | (with_reducible refine T_if_neN (tgt := 16) (pc1 := 12) (pc := 9) k_M_must_9 (by decide) (by decide) (by omega) (fun hc => ?_) (fun hc => ?_) <;> first | (exfalso; omega) | skip)
    | refine T_if_ne_t (tgt := 16) (pc := 9) k_M_must_9 rfl (by decide) ?_
    | refine T_if_ne_f (tgt := 16) (pc1 := 12) (pc := 9) k_M_must_9 rfl rfl (by decide) ?_
    | refine T_if_ne (tgt := 16) (pc1 := 12) (pc := 9) k_M_must_9 rfl rfl (fun hc => ?_) (fun hc => ?_)
    | refine T_iconst (v := (nI 1)) (pc1 := 13) (pc := 12) k_M_must_12 rfl (by decide) ?_
    | refine T_goto (tgt := 17) (pc := 13) k_M_must_13 rfl ?_
    | refine T_iconst (v := (nI 0)) (pc1 := 17) (pc := 16) k_M_must_16 rfl (by decide) ?_
    | refine T_putI (pc1 := 20) (pc := 17) k_M_must_17 rfl f_M_225 rfl (by first | exact ga G (by decide) rfl | assumption) (by first | rfl | decide | assumption) (by first | rfl | decide | assumption) ?_
    | refine T_aload_n (pc1 := 21) (pc := 20) k_M_must_20 rfl rfl ?_
    | refine T_aload_nN (pc1 := 21) (pc := 20) k_M_must_20 rfl rfl ?_
    | refine T_getV (pc1 := 24) (pc := 21) k_M_must_21 rfl f_M_225 rfl (by first | exact ga G (by decide) rfl | assumption) (by first | assumption | (simp (disch := omega) only [pI_eq, pI_row, pI_col, va_up_self, va_up_ne, ne_eq, not_false_eq_true] <;> rfl) | rfl) ?_
    | (with_reducible refine T_if_neN (tgt := 31) (pc1 := 27) (pc := 24) k_M_must_24 (by decide) (by decide) (by omega) (fun hc => ?_) (fun hc => ?_) <;> first | (exfalso; omega) | skip)
    | refine T_if_ne_t (tgt := 31) (pc := 24) k_M_must_24 rfl (by decide) ?_
    | refine T_if_ne_f (tgt := 31) (pc1 := 27) (pc := 24) k_M_must_24 rfl rfl (by decide) ?_
    | refine T_if_ne (tgt := 31) (pc1 := 27) (pc := 24) k_M_must_24 rfl rfl (fun hc => ?_) (fun hc => ?_)
    | refine T_aload_n (pc1 := 28) (pc := 27) k_M_must_27 rfl rfl ?_
    | refine T_aload_nN (pc1 := 28) (pc := 27) k_M_must_27 rfl rfl ?_
    | (refine T_cV (As := []) (d1 := 3) (pc1 := 31) (pc := 28) k_M_must_28 rfl (by decide) (Nat.le_of_ble_eq_true rfl) rfl o_M_next l_M_229 rfl (by first | exact ga G (by decide) rfl | assumption) rfl (c_M_next (T := T) (z := z) G ((pI_rw (by decide)).trans h1) ((pI_col (by decide)).trans h2) okt ((pI_col (by decide)).trans h4) hw.2.1 ((pI_col (by decide)).trans h5) hw.2.2.2.1 (fun J hJ hk j1 j2 j3 => ?_)) <;> try dsimp only [psh])
    | refine T_retV (pc := 31) k_M_must_31 rfl ?_)
  have q : ∀ k, k ≠ 11 → k ≠ 12 → k ≠ 13 → J 101 k = I 101 k := fun k a b c => by
    rw [hk k a b c]
    by_cases e : k = 14
    · subst e; rw [pI_eq, h6]
    · exact pI_col e
  refine kk J ⟨fun i hi => ?_, fun k hk => q k (by omega) (by omega) (by omega)⟩ ⟨?_, (q 8 (by decide) (by decide) (by decide)).trans h2, j1, j2, j3, (q 14 (by decide) (by decide) (by decide)).trans h6, (q 15 (by decide) (by decide) (by decide)).trans h7, (q 16 (by decide) (by decide) (by decide)).trans h8, (q 17 (by decide) (by decide) (by decide)).trans h9, (q 18 (by decide) (by decide) (by decide)).trans h10, (q 19 (by decide) (by decide) (by decide)).trans h11, ?_⟩
  · rw [hJ i (fun z => hi (by simp at z ⊢; omega)), pI_rw (fun z => hi (by simp; omega))]
  · rw [hJ 108 (by decide), pI_rw (by decide)]; exact h1
  · rw [hJ 111 (by decide), pI_rw (by decide)]; exact h12
theorem c_M_must0 {T : Row} {z key no op : Nat} {p : PS} (G : GeoOK g) (h : PMo T z key no op p I) (kk : ∀ J, FrM I J → PMw T z key p J → K none g J) : Cl 4 M_M_must [.ref 101, .int (nI 0)] g I K := by
  show Rl 4 M_M_must 0 [some (.ref 101), some (.int (nI 0))] [] g I K
  obtain ⟨h1, h2, h3, h4, h5, h6, h7, h8, h9, h10, h11, h12⟩ := h
  repeat' (first
    | refine T_aload_n (pc1 := 1) (pc := 0) k_M_must_0 rfl rfl ?_
    | refine T_aload_nN (pc1 := 1) (pc := 0) k_M_must_0 rfl rfl ?_
    | refine T_aload_n (pc1 := 2) (pc := 1) k_M_must_1 rfl rfl ?_
    | refine T_aload_nN (pc1 := 2) (pc := 1) k_M_must_1 rfl rfl ?_
    | refine T_getV (pc1 := 5) (pc := 2) k_M_must_2 rfl f_M_225 rfl (by first | exact ga G (by decide) rfl | assumption) (by first | assumption | (simp (disch := omega) only [pI_eq, pI_row, pI_col, va_up_self, va_up_ne, ne_eq, not_false_eq_true] <;> rfl) | rfl) ?_
    | (with_reducible refine T_if_neN (tgt := 12) (pc1 := 8) (pc := 5) k_M_must_5 (by decide) (by decide) (by omega) (fun hc => ?_) (fun hc => ?_) <;> first | (exfalso; omega) | skip)
    | refine T_if_ne_t (tgt := 12) (pc := 5) k_M_must_5 rfl (by decide) ?_
    | refine T_if_ne_f (tgt := 12) (pc1 := 8) (pc := 5) k_M_must_5 rfl rfl (by decide) ?_
    | refine T_if_ne (tgt := 12) (pc1 := 8) (pc := 5) k_M_must_5 rfl rfl (fun hc => ?_) (fun hc => ?_)
    | refine T_iload_n (pc1 := 9) (pc := 8) k_M_must_8 rfl rfl ?_
    | (with_reducible refine T_if_neN (tgt := 16) (pc1 := 12) (pc := 9) k_M_must_9 (by decide) (by decide) (by omega) (fun hc => ?_) (fun hc => ?_) <;> first | (exfalso; omega) | skip)
    | refine T_if_ne_t (tgt := 16) (pc := 9) k_M_must_9 rfl (by decide) ?_
    | refine T_if_ne_f (tgt := 16) (pc1 := 12) (pc := 9) k_M_must_9 rfl rfl (by decide) ?_
    | refine T_if_ne (tgt := 16) (pc1 := 12) (pc := 9) k_M_must_9 rfl rfl (fun hc => ?_) (fun hc => ?_)
    | refine T_iconst (v := (nI 1)) (pc1 := 13) (pc := 12) k_M_must_12 rfl (by decide) ?_
    | refine T_goto (tgt := 17) (pc := 13) k_M_must_13 rfl ?_
    | refine T_iconst (v := (nI 0)) (pc1 := 17) (pc := 16) k_M_must_16 rfl (by decide) ?_
    | refine T_putI (pc1 := 20) (pc := 17) k_M_must_17 rfl f_M_225 rfl (by first | exact ga G (by decide) rfl | assumption) (by first | rfl | decide | assumption) (by first | rfl | decide | assumption) ?_
    | refine T_aload_n (pc1 := 21) (pc := 20) k_M_must_20 rfl rfl ?_
    | refine T_aload_nN (pc1 := 21) (pc := 20) k_M_must_20 rfl rfl ?_
    | refine T_getV (pc1 := 24) (pc := 21) k_M_must_21 rfl f_M_225 rfl (by first | exact ga G (by decide) rfl | assumption) (by first | assumption | (simp (disch := omega) only [pI_eq, pI_row, pI_col, va_up_self, va_up_ne, ne_eq, not_false_eq_true] <;> rfl) | rfl) ?_
    | (with_reducible refine T_if_neN (tgt := 31) (pc1 := 27) (pc := 24) k_M_must_24 (by decide) (by decide) (by omega) (fun hc => ?_) (fun hc => ?_) <;> first | (exfalso; omega) | skip)
    | refine T_if_ne_t (tgt := 31) (pc := 24) k_M_must_24 rfl (by decide) ?_
    | refine T_if_ne_f (tgt := 31) (pc1 := 27) (pc := 24) k_M_must_24 rfl rfl (by decide) ?_
    | refine T_if_ne (tgt := 31) (pc1 := 27) (pc := 24) k_M_must_24 rfl rfl (fun hc => ?_) (fun hc => ?_)
    | refine T_aload_n (pc1 := 28) (pc := 27) k_M_must_27 rfl rfl ?_
    | refine T_aload_nN (pc1 := 28) (pc := 27) k_M_must_27 rfl rfl ?_
    | (refine T_cV (As := []) (d1 := 3) (pc1 := 31) (pc := 28) k_M_must_28 rfl (by decide) (Nat.le_of_ble_eq_true rfl) rfl o_M_next l_M_229 rfl (by first | exact ga G (by decide) rfl | assumption) rfl (c_M_next (T := T) (z := z) G ((pI_rw (by decide)).trans h1) ((pI_col (by decide)).trans h2) okt ((pI_col (by decide)).trans h4) hw.2.1 ((pI_col (by decide)).trans h5) hw.2.2.2.1 (fun J hJ hk j1 j2 j3 => ?_)) <;> try dsimp only [psh])
    | refine T_retV (pc := 31) k_M_must_31 rfl ?_)
  exact kk _ (FrM_p FrM_rf (by decide)) ⟨(pI_rw (by decide)).trans h1, (pI_col (by decide)).trans h2, (pI_col (by decide)).trans h3, (pI_col (by decide)).trans h4, (pI_col (by decide)).trans h5, pI_eq, (pI_col (by decide)).trans h7⟩
theorem c_M_mustw {T : Row} {z key : Nat} {p : PS} {x : Int32} (G : GeoOK g) (h : PMw T z key p I) (kk : ∀ J, FrM I J → PMw T z key p J → K none g J) : Cl 4 M_M_must [.ref 101, .int x] g I K := by
  show Rl 4 M_M_must 0 [some (.ref 101), some (.int x)] [] g I K
  obtain ⟨h1, h2, h3, h4, h5, h6, h7⟩ := h
  repeat' (first
    | refine T_aload_n (pc1 := 1) (pc := 0) k_M_must_0 rfl rfl ?_
    | refine T_aload_nN (pc1 := 1) (pc := 0) k_M_must_0 rfl rfl ?_
    | refine T_aload_n (pc1 := 2) (pc := 1) k_M_must_1 rfl rfl ?_
    | refine T_aload_nN (pc1 := 2) (pc := 1) k_M_must_1 rfl rfl ?_
    | refine T_getV (pc1 := 5) (pc := 2) k_M_must_2 rfl f_M_225 rfl (by first | exact ga G (by decide) rfl | assumption) (by first | assumption | (simp (disch := omega) only [pI_eq, pI_row, pI_col, va_up_self, va_up_ne, ne_eq, not_false_eq_true] <;> rfl) | rfl) ?_
    | (with_reducible refine T_if_neN (tgt := 12) (pc1 := 8) (pc := 5) k_M_must_5 (by decide) (by decide) (by omega) (fun hc => ?_) (fun hc => ?_) <;> first | (exfalso; omega) | skip)
    | refine T_if_ne_t (tgt := 12) (pc := 5) k_M_must_5 rfl (by decide) ?_
    | refine T_if_ne_f (tgt := 12) (pc1 := 8) (pc := 5) k_M_must_5 rfl rfl (by decide) ?_
    | refine T_if_ne (tgt := 12) (pc1 := 8) (pc := 5) k_M_must_5 rfl rfl (fun hc => ?_) (fun hc => ?_)
    | refine T_iload_n (pc1 := 9) (pc := 8) k_M_must_8 rfl rfl ?_
    | (with_reducible refine T_if_neN (tgt := 16) (pc1 := 12) (pc := 9) k_M_must_9 (by decide) (by decide) (by omega) (fun hc => ?_) (fun hc => ?_) <;> first | (exfalso; omega) | skip)
    | refine T_if_ne_t (tgt := 16) (pc := 9) k_M_must_9 rfl (by decide) ?_
    | refine T_if_ne_f (tgt := 16) (pc1 := 12) (pc := 9) k_M_must_9 rfl rfl (by decide) ?_
    | refine T_if_ne (tgt := 16) (pc1 := 12) (pc := 9) k_M_must_9 rfl rfl (fun hc => ?_) (fun hc => ?_)
    | refine T_iconst (v := (nI 1)) (pc1 := 13) (pc := 12) k_M_must_12 rfl (by decide) ?_
    | refine T_goto (tgt := 17) (pc := 13) k_M_must_13 rfl ?_
    | refine T_iconst (v := (nI 0)) (pc1 := 17) (pc := 16) k_M_must_16 rfl (by decide) ?_
    | refine T_putI (pc1 := 20) (pc := 17) k_M_must_17 rfl f_M_225 rfl (by first | exact ga G (by decide) rfl | assumption) (by first | rfl | decide | assumption) (by first | rfl | decide | assumption) ?_
    | refine T_aload_n (pc1 := 21) (pc := 20) k_M_must_20 rfl rfl ?_
    | refine T_aload_nN (pc1 := 21) (pc := 20) k_M_must_20 rfl rfl ?_
    | refine T_getV (pc1 := 24) (pc := 21) k_M_must_21 rfl f_M_225 rfl (by first | exact ga G (by decide) rfl | assumption) (by first | assumption | (simp (disch := omega) only [pI_eq, pI_row, pI_col, va_up_self, va_up_ne, ne_eq, not_false_eq_true] <;> rfl) | rfl) ?_
    | (with_reducible refine T_if_neN (tgt := 31) (pc1 := 27) (pc := 24) k_M_must_24 (by decide) (by decide) (by omega) (fun hc => ?_) (fun hc => ?_) <;> first | (exfalso; omega) | skip)
    | refine T_if_ne_t (tgt := 31) (pc := 24) k_M_must_24 rfl (by decide) ?_
    | refine T_if_ne_f (tgt := 31) (pc1 := 27) (pc := 24) k_M_must_24 rfl rfl (by decide) ?_
    | refine T_if_ne (tgt := 31) (pc1 := 27) (pc := 24) k_M_must_24 rfl rfl (fun hc => ?_) (fun hc => ?_)
    | refine T_aload_n (pc1 := 28) (pc := 27) k_M_must_27 rfl rfl ?_
    | refine T_aload_nN (pc1 := 28) (pc := 27) k_M_must_27 rfl rfl ?_
    | (refine T_cV (As := []) (d1 := 3) (pc1 := 31) (pc := 28) k_M_must_28 rfl (by decide) (Nat.le_of_ble_eq_true rfl) rfl o_M_next l_M_229 rfl (by first | exact ga G (by decide) rfl | assumption) rfl (c_M_next (T := T) (z := z) G ((pI_rw (by decide)).trans h1) ((pI_col (by decide)).trans h2) okt ((pI_col (by decide)).trans h4) hw.2.1 ((pI_col (by decide)).trans h5) hw.2.2.2.1 (fun J hJ hk j1 j2 j3 => ?_)) <;> try dsimp only [psh])
    | refine T_retV (pc := 31) k_M_must_31 rfl ?_)
  exact kk _ (FrM_p FrM_rf (by decide)) ⟨(pI_rw (by decide)).trans h1, (pI_col (by decide)).trans h2, (pI_col (by decide)).trans h3, (pI_col (by decide)).trans h4, (pI_col (by decide)).trans h5, pI_eq, (pI_col (by decide)).trans h7⟩
theorem sgI_f {T : Row} {p : PS} {c : Nat} (h : pO p ≠ 3 ∨ ¬ T (pS p) = nI c) : sgI T p c = false := by
  unfold sgI
  rcases h with h | h
  · rw [decide_eq_false h]; rfl
  · rw [decide_eq_false h, Bool.and_false]
theorem sgI_t {T : Row} {p : PS} {c : Nat} (h : pO p = 3) (h2 : T (pS p) = nI c) : sgI T p c = true := by
  unfold sgI
  rw [decide_eq_true h, decide_eq_true h2]; rfl
theorem c_M_isSignO {T : Row} {z key no op c : Nat} {p : PS} (G : GeoOK g) (okt : okTp T z) (hc256 : c < 256) (h : PMo T z key no op p I) (hw : wfP T z p) (kt : sgI T p c = true → K (some (.int (nI 1))) g I) (kf : sgI T p c = false → K (some (.int (nI 0))) g I) : Cl 1 M_M_isSign [.ref 101, .int (nI c)] g I K := by
  show Rl 1 M_M_isSign 0 [some (.ref 101), some (.int (nI c))] [] g I K
  obtain ⟨h1, h2, h3, h4, h5, h6, h7, h8, h9, h10, h11, h12⟩ := h
  have w2 := hw.2.1
  have w3 := hw.2.2.1
  have w4 := hw.2.2.2.1
  have h96 := okt.1
  by_cases c3 : pO p = 3
  · have w5 := w3 (by omega)
    by_cases ct : T (pS p) = nI c
    · have e : I 108 (pS p) = nI c := by rw [h1]; exact ct
      repeat' (first
        | refine T_aload_n (pc1 := 1) (pc := 0) k_M_isSign_0 rfl rfl ?_
        | refine T_aload_nN (pc1 := 1) (pc := 0) k_M_isSign_0 rfl rfl ?_
        | refine T_getV (pc1 := 4) (pc := 1) k_M_isSign_1 rfl f_M_225 rfl (by first | exact ga G (by decide) rfl | assumption) (by first | assumption | (simp (disch := omega) only [pI_eq, pI_row, pI_col, va_up_self, va_up_ne, ne_eq, not_false_eq_true] <;> rfl) | rfl) ?_
        | (with_reducible refine T_if_neN (tgt := 32) (pc1 := 7) (pc := 4) k_M_isSign_4 (by decide) (by decide) (by omega) (fun hc => ?_) (fun hc => ?_) <;> first | (exfalso; omega) | skip)
        | refine T_if_ne_t (tgt := 32) (pc := 4) k_M_isSign_4 rfl (by decide) ?_
        | refine T_if_ne_f (tgt := 32) (pc1 := 7) (pc := 4) k_M_isSign_4 rfl rfl (by decide) ?_
        | refine T_if_ne (tgt := 32) (pc1 := 7) (pc := 4) k_M_isSign_4 rfl rfl (fun hc => ?_) (fun hc => ?_)
        | refine T_aload_n (pc1 := 8) (pc := 7) k_M_isSign_7 rfl rfl ?_
        | refine T_aload_nN (pc1 := 8) (pc := 7) k_M_isSign_7 rfl rfl ?_
        | refine T_getV (pc1 := 11) (pc := 8) k_M_isSign_8 rfl f_M_207 rfl (by first | exact ga G (by decide) rfl | assumption) (by first | assumption | (simp (disch := omega) only [pI_eq, pI_row, pI_col, va_up_self, va_up_ne, ne_eq, not_false_eq_true] <;> rfl) | rfl) ?_
        | refine T_iconst (v := (nI 3)) (pc1 := 12) (pc := 11) k_M_isSign_11 rfl (by decide) ?_
        | (with_reducible refine T_icmp_neN (tgt := 32) (pc1 := 15) (pc := 12) k_M_isSign_12 (by decide) (by decide) (by omega) (by omega) (fun hc => ?_) (fun hc => ?_) <;> first | (exfalso; omega) | skip)
        | refine T_icmp_ne_t (tgt := 32) (pc := 12) k_M_isSign_12 rfl (by decide) ?_
        | refine T_icmp_ne_f (tgt := 32) (pc1 := 15) (pc := 12) k_M_isSign_12 rfl rfl (by decide) ?_
        | refine T_icmp_ne (tgt := 32) (pc1 := 15) (pc := 12) k_M_isSign_12 rfl rfl (fun hc => ?_) (fun hc => ?_)
        | refine T_aload_n (pc1 := 16) (pc := 15) k_M_isSign_15 rfl rfl ?_
        | refine T_aload_nN (pc1 := 16) (pc := 15) k_M_isSign_15 rfl rfl ?_
        | refine T_getR (pc1 := 19) (pc := 16) k_M_isSign_16 rfl f_M_28 rfl (by first | exact ga G (by decide) rfl | assumption) (by first | exact gr G (by decide) rfl | assumption) ?_
        | refine T_aload_n (pc1 := 20) (pc := 19) k_M_isSign_19 rfl rfl ?_
        | refine T_aload_nN (pc1 := 20) (pc := 19) k_M_isSign_19 rfl rfl ?_
        | refine T_getV (pc1 := 23) (pc := 20) k_M_isSign_20 rfl f_M_213 rfl (by first | exact ga G (by decide) rfl | assumption) (by first | assumption | (simp (disch := omega) only [pI_eq, pI_row, pI_col, va_up_self, va_up_ne, ne_eq, not_false_eq_true] <;> rfl) | rfl) ?_
        | refine T_ialdN (pc1 := 24) (pc := 23) k_M_isSign_23 rfl (by first | exact ga G (by decide) rfl | assumption) (by omega) (by omega) (by first | assumption | (simp (disch := omega) only [pI_eq, pI_row, pI_col, va_up_self, va_up_ne, ne_eq, not_false_eq_true] <;> rfl) | rfl) ?_
        | refine T_iald (pc1 := 24) (pc := 23) k_M_isSign_23 rfl (by first | exact ga G (by decide) rfl | assumption) (by assumption) ?_
        | refine T_iload_n (pc1 := 25) (pc := 24) k_M_isSign_24 rfl rfl ?_
        | (with_reducible refine T_icmp_neN (tgt := 32) (pc1 := 28) (pc := 25) k_M_isSign_25 (by decide) (by decide) (by omega) (by omega) (fun hc => ?_) (fun hc => ?_) <;> first | (exfalso; omega) | skip)
        | refine T_icmp_ne_t (tgt := 32) (pc := 25) k_M_isSign_25 rfl (by decide) ?_
        | refine T_icmp_ne_f (tgt := 32) (pc1 := 28) (pc := 25) k_M_isSign_25 rfl rfl (by decide) ?_
        | refine T_icmp_ne (tgt := 32) (pc1 := 28) (pc := 25) k_M_isSign_25 rfl rfl (fun hc => ?_) (fun hc => ?_)
        | refine T_iconst (v := (nI 1)) (pc1 := 29) (pc := 28) k_M_isSign_28 rfl (by decide) ?_
        | refine T_goto (tgt := 33) (pc := 29) k_M_isSign_29 rfl ?_
        | refine T_iconst (v := (nI 0)) (pc1 := 33) (pc := 32) k_M_isSign_32 rfl (by decide) ?_
        | refine T_retI (pc := 33) k_M_isSign_33 rfl (by first | rfl | decide | assumption) ?_)
      exact kt (sgI_t c3 ct)
    · have e : I 108 (pS p) = T (pS p) := by rw [h1]
      repeat' (first
        | refine T_aload_n (pc1 := 1) (pc := 0) k_M_isSign_0 rfl rfl ?_
        | refine T_aload_nN (pc1 := 1) (pc := 0) k_M_isSign_0 rfl rfl ?_
        | refine T_getV (pc1 := 4) (pc := 1) k_M_isSign_1 rfl f_M_225 rfl (by first | exact ga G (by decide) rfl | assumption) (by first | assumption | (simp (disch := omega) only [pI_eq, pI_row, pI_col, va_up_self, va_up_ne, ne_eq, not_false_eq_true] <;> rfl) | rfl) ?_
        | (with_reducible refine T_if_neN (tgt := 32) (pc1 := 7) (pc := 4) k_M_isSign_4 (by decide) (by decide) (by omega) (fun hc => ?_) (fun hc => ?_) <;> first | (exfalso; omega) | skip)
        | refine T_if_ne_t (tgt := 32) (pc := 4) k_M_isSign_4 rfl (by decide) ?_
        | refine T_if_ne_f (tgt := 32) (pc1 := 7) (pc := 4) k_M_isSign_4 rfl rfl (by decide) ?_
        | refine T_if_ne (tgt := 32) (pc1 := 7) (pc := 4) k_M_isSign_4 rfl rfl (fun hc => ?_) (fun hc => ?_)
        | refine T_aload_n (pc1 := 8) (pc := 7) k_M_isSign_7 rfl rfl ?_
        | refine T_aload_nN (pc1 := 8) (pc := 7) k_M_isSign_7 rfl rfl ?_
        | refine T_getV (pc1 := 11) (pc := 8) k_M_isSign_8 rfl f_M_207 rfl (by first | exact ga G (by decide) rfl | assumption) (by first | assumption | (simp (disch := omega) only [pI_eq, pI_row, pI_col, va_up_self, va_up_ne, ne_eq, not_false_eq_true] <;> rfl) | rfl) ?_
        | refine T_iconst (v := (nI 3)) (pc1 := 12) (pc := 11) k_M_isSign_11 rfl (by decide) ?_
        | (with_reducible refine T_icmp_neN (tgt := 32) (pc1 := 15) (pc := 12) k_M_isSign_12 (by decide) (by decide) (by omega) (by omega) (fun hc => ?_) (fun hc => ?_) <;> first | (exfalso; omega) | skip)
        | refine T_icmp_ne_t (tgt := 32) (pc := 12) k_M_isSign_12 rfl (by decide) ?_
        | refine T_icmp_ne_f (tgt := 32) (pc1 := 15) (pc := 12) k_M_isSign_12 rfl rfl (by decide) ?_
        | refine T_icmp_ne (tgt := 32) (pc1 := 15) (pc := 12) k_M_isSign_12 rfl rfl (fun hc => ?_) (fun hc => ?_)
        | refine T_aload_n (pc1 := 16) (pc := 15) k_M_isSign_15 rfl rfl ?_
        | refine T_aload_nN (pc1 := 16) (pc := 15) k_M_isSign_15 rfl rfl ?_
        | refine T_getR (pc1 := 19) (pc := 16) k_M_isSign_16 rfl f_M_28 rfl (by first | exact ga G (by decide) rfl | assumption) (by first | exact gr G (by decide) rfl | assumption) ?_
        | refine T_aload_n (pc1 := 20) (pc := 19) k_M_isSign_19 rfl rfl ?_
        | refine T_aload_nN (pc1 := 20) (pc := 19) k_M_isSign_19 rfl rfl ?_
        | refine T_getV (pc1 := 23) (pc := 20) k_M_isSign_20 rfl f_M_213 rfl (by first | exact ga G (by decide) rfl | assumption) (by first | assumption | (simp (disch := omega) only [pI_eq, pI_row, pI_col, va_up_self, va_up_ne, ne_eq, not_false_eq_true] <;> rfl) | rfl) ?_
        | refine T_ialdN (pc1 := 24) (pc := 23) k_M_isSign_23 rfl (by first | exact ga G (by decide) rfl | assumption) (by omega) (by omega) (by first | assumption | (simp (disch := omega) only [pI_eq, pI_row, pI_col, va_up_self, va_up_ne, ne_eq, not_false_eq_true] <;> rfl) | rfl) ?_
        | refine T_iald (pc1 := 24) (pc := 23) k_M_isSign_23 rfl (by first | exact ga G (by decide) rfl | assumption) (by assumption) ?_
        | refine T_iload_n (pc1 := 25) (pc := 24) k_M_isSign_24 rfl rfl ?_
        | (with_reducible refine T_icmp_neN (tgt := 32) (pc1 := 28) (pc := 25) k_M_isSign_25 (by decide) (by decide) (by omega) (by omega) (fun hc => ?_) (fun hc => ?_) <;> first | (exfalso; omega) | skip)
        | refine T_icmp_ne_t (tgt := 32) (pc := 25) k_M_isSign_25 rfl (by decide) ?_
        | refine T_icmp_ne_f (tgt := 32) (pc1 := 28) (pc := 25) k_M_isSign_25 rfl rfl (by decide) ?_
        | refine T_icmp_ne (tgt := 32) (pc1 := 28) (pc := 25) k_M_isSign_25 rfl rfl (fun hc => ?_) (fun hc => ?_)
        | refine T_iconst (v := (nI 1)) (pc1 := 29) (pc := 28) k_M_isSign_28 rfl (by decide) ?_
        | refine T_goto (tgt := 33) (pc := 29) k_M_isSign_29 rfl ?_
        | refine T_iconst (v := (nI 0)) (pc1 := 33) (pc := 32) k_M_isSign_32 rfl (by decide) ?_
        | refine T_retI (pc := 33) k_M_isSign_33 rfl (by first | rfl | decide | assumption) ?_)
      all_goals first | exact kf (sgI_f (Or.inr ct)) | contradiction
  · repeat' (first
      | refine T_aload_n (pc1 := 1) (pc := 0) k_M_isSign_0 rfl rfl ?_
      | refine T_aload_nN (pc1 := 1) (pc := 0) k_M_isSign_0 rfl rfl ?_
      | refine T_getV (pc1 := 4) (pc := 1) k_M_isSign_1 rfl f_M_225 rfl (by first | exact ga G (by decide) rfl | assumption) (by first | assumption | (simp (disch := omega) only [pI_eq, pI_row, pI_col, va_up_self, va_up_ne, ne_eq, not_false_eq_true] <;> rfl) | rfl) ?_
      | (with_reducible refine T_if_neN (tgt := 32) (pc1 := 7) (pc := 4) k_M_isSign_4 (by decide) (by decide) (by omega) (fun hc => ?_) (fun hc => ?_) <;> first | (exfalso; omega) | skip)
      | refine T_if_ne_t (tgt := 32) (pc := 4) k_M_isSign_4 rfl (by decide) ?_
      | refine T_if_ne_f (tgt := 32) (pc1 := 7) (pc := 4) k_M_isSign_4 rfl rfl (by decide) ?_
      | refine T_if_ne (tgt := 32) (pc1 := 7) (pc := 4) k_M_isSign_4 rfl rfl (fun hc => ?_) (fun hc => ?_)
      | refine T_aload_n (pc1 := 8) (pc := 7) k_M_isSign_7 rfl rfl ?_
      | refine T_aload_nN (pc1 := 8) (pc := 7) k_M_isSign_7 rfl rfl ?_
      | refine T_getV (pc1 := 11) (pc := 8) k_M_isSign_8 rfl f_M_207 rfl (by first | exact ga G (by decide) rfl | assumption) (by first | assumption | (simp (disch := omega) only [pI_eq, pI_row, pI_col, va_up_self, va_up_ne, ne_eq, not_false_eq_true] <;> rfl) | rfl) ?_
      | refine T_iconst (v := (nI 3)) (pc1 := 12) (pc := 11) k_M_isSign_11 rfl (by decide) ?_
      | (with_reducible refine T_icmp_neN (tgt := 32) (pc1 := 15) (pc := 12) k_M_isSign_12 (by decide) (by decide) (by omega) (by omega) (fun hc => ?_) (fun hc => ?_) <;> first | (exfalso; omega) | skip)
      | refine T_icmp_ne_t (tgt := 32) (pc := 12) k_M_isSign_12 rfl (by decide) ?_
      | refine T_icmp_ne_f (tgt := 32) (pc1 := 15) (pc := 12) k_M_isSign_12 rfl rfl (by decide) ?_
      | refine T_icmp_ne (tgt := 32) (pc1 := 15) (pc := 12) k_M_isSign_12 rfl rfl (fun hc => ?_) (fun hc => ?_)
      | refine T_aload_n (pc1 := 16) (pc := 15) k_M_isSign_15 rfl rfl ?_
      | refine T_aload_nN (pc1 := 16) (pc := 15) k_M_isSign_15 rfl rfl ?_
      | refine T_getR (pc1 := 19) (pc := 16) k_M_isSign_16 rfl f_M_28 rfl (by first | exact ga G (by decide) rfl | assumption) (by first | exact gr G (by decide) rfl | assumption) ?_
      | refine T_aload_n (pc1 := 20) (pc := 19) k_M_isSign_19 rfl rfl ?_
      | refine T_aload_nN (pc1 := 20) (pc := 19) k_M_isSign_19 rfl rfl ?_
      | refine T_getV (pc1 := 23) (pc := 20) k_M_isSign_20 rfl f_M_213 rfl (by first | exact ga G (by decide) rfl | assumption) (by first | assumption | (simp (disch := omega) only [pI_eq, pI_row, pI_col, va_up_self, va_up_ne, ne_eq, not_false_eq_true] <;> rfl) | rfl) ?_
      | refine T_ialdN (pc1 := 24) (pc := 23) k_M_isSign_23 rfl (by first | exact ga G (by decide) rfl | assumption) (by omega) (by omega) (by first | assumption | (simp (disch := omega) only [pI_eq, pI_row, pI_col, va_up_self, va_up_ne, ne_eq, not_false_eq_true] <;> rfl) | rfl) ?_
      | refine T_iald (pc1 := 24) (pc := 23) k_M_isSign_23 rfl (by first | exact ga G (by decide) rfl | assumption) (by assumption) ?_
      | refine T_iload_n (pc1 := 25) (pc := 24) k_M_isSign_24 rfl rfl ?_
      | (with_reducible refine T_icmp_neN (tgt := 32) (pc1 := 28) (pc := 25) k_M_isSign_25 (by decide) (by decide) (by omega) (by omega) (fun hc => ?_) (fun hc => ?_) <;> first | (exfalso; omega) | skip)
      | refine T_icmp_ne_t (tgt := 32) (pc := 25) k_M_isSign_25 rfl (by decide) ?_
      | refine T_icmp_ne_f (tgt := 32) (pc1 := 28) (pc := 25) k_M_isSign_25 rfl rfl (by decide) ?_
      | refine T_icmp_ne (tgt := 32) (pc1 := 28) (pc := 25) k_M_isSign_25 rfl rfl (fun hc => ?_) (fun hc => ?_)
      | refine T_iconst (v := (nI 1)) (pc1 := 29) (pc := 28) k_M_isSign_28 rfl (by decide) ?_
      | refine T_goto (tgt := 33) (pc := 29) k_M_isSign_29 rfl ?_
      | refine T_iconst (v := (nI 0)) (pc1 := 33) (pc := 32) k_M_isSign_32 rfl (by decide) ?_
      | refine T_retI (pc := 33) k_M_isSign_33 rfl (by first | rfl | decide | assumption) ?_)
    all_goals first | exact kf (sgI_f (Or.inl c3)) | (exfalso; omega)
theorem c_M_isSignW {T : Row} {z key : Nat} {p : PS} {x : Int32} (G : GeoOK g) (h : PMw T z key p I) (kf : K (some (.int (nI 0))) g I) : Cl 1 M_M_isSign [.ref 101, .int x] g I K := by
  show Rl 1 M_M_isSign 0 [some (.ref 101), some (.int x)] [] g I K
  obtain ⟨h1, h2, h3, h4, h5, h6, h7⟩ := h
  repeat' (first
    | refine T_aload_n (pc1 := 1) (pc := 0) k_M_isSign_0 rfl rfl ?_
    | refine T_aload_nN (pc1 := 1) (pc := 0) k_M_isSign_0 rfl rfl ?_
    | refine T_getV (pc1 := 4) (pc := 1) k_M_isSign_1 rfl f_M_225 rfl (by first | exact ga G (by decide) rfl | assumption) (by first | assumption | (simp (disch := omega) only [pI_eq, pI_row, pI_col, va_up_self, va_up_ne, ne_eq, not_false_eq_true] <;> rfl) | rfl) ?_
    | (with_reducible refine T_if_neN (tgt := 32) (pc1 := 7) (pc := 4) k_M_isSign_4 (by decide) (by decide) (by omega) (fun hc => ?_) (fun hc => ?_) <;> first | (exfalso; omega) | skip)
    | refine T_if_ne_t (tgt := 32) (pc := 4) k_M_isSign_4 rfl (by decide) ?_
    | refine T_if_ne_f (tgt := 32) (pc1 := 7) (pc := 4) k_M_isSign_4 rfl rfl (by decide) ?_
    | refine T_if_ne (tgt := 32) (pc1 := 7) (pc := 4) k_M_isSign_4 rfl rfl (fun hc => ?_) (fun hc => ?_)
    | refine T_aload_n (pc1 := 8) (pc := 7) k_M_isSign_7 rfl rfl ?_
    | refine T_aload_nN (pc1 := 8) (pc := 7) k_M_isSign_7 rfl rfl ?_
    | refine T_getV (pc1 := 11) (pc := 8) k_M_isSign_8 rfl f_M_207 rfl (by first | exact ga G (by decide) rfl | assumption) (by first | assumption | (simp (disch := omega) only [pI_eq, pI_row, pI_col, va_up_self, va_up_ne, ne_eq, not_false_eq_true] <;> rfl) | rfl) ?_
    | refine T_iconst (v := (nI 3)) (pc1 := 12) (pc := 11) k_M_isSign_11 rfl (by decide) ?_
    | (with_reducible refine T_icmp_neN (tgt := 32) (pc1 := 15) (pc := 12) k_M_isSign_12 (by decide) (by decide) (by omega) (by omega) (fun hc => ?_) (fun hc => ?_) <;> first | (exfalso; omega) | skip)
    | refine T_icmp_ne_t (tgt := 32) (pc := 12) k_M_isSign_12 rfl (by decide) ?_
    | refine T_icmp_ne_f (tgt := 32) (pc1 := 15) (pc := 12) k_M_isSign_12 rfl rfl (by decide) ?_
    | refine T_icmp_ne (tgt := 32) (pc1 := 15) (pc := 12) k_M_isSign_12 rfl rfl (fun hc => ?_) (fun hc => ?_)
    | refine T_aload_n (pc1 := 16) (pc := 15) k_M_isSign_15 rfl rfl ?_
    | refine T_aload_nN (pc1 := 16) (pc := 15) k_M_isSign_15 rfl rfl ?_
    | refine T_getR (pc1 := 19) (pc := 16) k_M_isSign_16 rfl f_M_28 rfl (by first | exact ga G (by decide) rfl | assumption) (by first | exact gr G (by decide) rfl | assumption) ?_
    | refine T_aload_n (pc1 := 20) (pc := 19) k_M_isSign_19 rfl rfl ?_
    | refine T_aload_nN (pc1 := 20) (pc := 19) k_M_isSign_19 rfl rfl ?_
    | refine T_getV (pc1 := 23) (pc := 20) k_M_isSign_20 rfl f_M_213 rfl (by first | exact ga G (by decide) rfl | assumption) (by first | assumption | (simp (disch := omega) only [pI_eq, pI_row, pI_col, va_up_self, va_up_ne, ne_eq, not_false_eq_true] <;> rfl) | rfl) ?_
    | refine T_ialdN (pc1 := 24) (pc := 23) k_M_isSign_23 rfl (by first | exact ga G (by decide) rfl | assumption) (by omega) (by omega) (by first | assumption | (simp (disch := omega) only [pI_eq, pI_row, pI_col, va_up_self, va_up_ne, ne_eq, not_false_eq_true] <;> rfl) | rfl) ?_
    | refine T_iald (pc1 := 24) (pc := 23) k_M_isSign_23 rfl (by first | exact ga G (by decide) rfl | assumption) (by assumption) ?_
    | refine T_iload_n (pc1 := 25) (pc := 24) k_M_isSign_24 rfl rfl ?_
    | (with_reducible refine T_icmp_neN (tgt := 32) (pc1 := 28) (pc := 25) k_M_isSign_25 (by decide) (by decide) (by omega) (by omega) (fun hc => ?_) (fun hc => ?_) <;> first | (exfalso; omega) | skip)
    | refine T_icmp_ne_t (tgt := 32) (pc := 25) k_M_isSign_25 rfl (by decide) ?_
    | refine T_icmp_ne_f (tgt := 32) (pc1 := 28) (pc := 25) k_M_isSign_25 rfl rfl (by decide) ?_
    | refine T_icmp_ne (tgt := 32) (pc1 := 28) (pc := 25) k_M_isSign_25 rfl rfl (fun hc => ?_) (fun hc => ?_)
    | refine T_iconst (v := (nI 1)) (pc1 := 29) (pc := 28) k_M_isSign_28 rfl (by decide) ?_
    | refine T_goto (tgt := 33) (pc := 29) k_M_isSign_29 rfl ?_
    | refine T_iconst (v := (nI 0)) (pc1 := 33) (pc := 32) k_M_isSign_32 rfl (by decide) ?_
    | refine T_retI (pc := 33) k_M_isSign_33 rfl (by first | rfl | decide | assumption) ?_)
  exact kf
theorem c_M_stepO {T : Row} {z key no op : Nat} {p : PS} {c : Int32} (G : GeoOK g) (h : PMo T z key no op p I) (hm : pM p < 100) (kk : ∀ J, FrM I J → PMo T z key no op (ps1 p c) J → K none g J) : Cl 1 M_M_step [.ref 101, .int c] g I K := by
  show Rl 1 M_M_step 0 [some (.ref 101), some (.int c)] [] g I K
  obtain ⟨h1, h2, h3, h4, h5, h6, h7, h8, h9, h10, h11, h12⟩ := h
  repeat' (first
    | refine T_aload_n (pc1 := 1) (pc := 0) k_M_step_0 rfl rfl ?_
    | refine T_aload_nN (pc1 := 1) (pc := 0) k_M_step_0 rfl rfl ?_
    | refine T_getV (pc1 := 4) (pc := 1) k_M_step_1 rfl f_M_225 rfl (by first | exact ga G (by decide) rfl | assumption) (by first | assumption | (simp (disch := omega) only [pI_eq, pI_row, pI_col, va_up_self, va_up_ne, ne_eq, not_false_eq_true, h11] <;> rfl) | rfl) ?_
    | (with_reducible refine T_if_neN (tgt := 27) (pc1 := 7) (pc := 4) k_M_step_4 (by decide) (by decide) (by omega) (fun hc => ?_) (fun hc => ?_) <;> first | (exfalso; omega) | skip)
    | refine T_if_ne_t (tgt := 27) (pc := 4) k_M_step_4 rfl (by decide) ?_
    | refine T_if_ne_f (tgt := 27) (pc1 := 7) (pc := 4) k_M_step_4 rfl rfl (by decide) ?_
    | refine T_if_ne (tgt := 27) (pc1 := 7) (pc := 4) k_M_step_4 rfl rfl (fun hc => ?_) (fun hc => ?_)
    | refine T_aload_n (pc1 := 8) (pc := 7) k_M_step_7 rfl rfl ?_
    | refine T_aload_nN (pc1 := 8) (pc := 7) k_M_step_7 rfl rfl ?_
    | refine T_getR (pc1 := 11) (pc := 8) k_M_step_8 rfl f_M_52 rfl (by first | exact ga G (by decide) rfl | assumption) (by first | exact gr G (by decide) rfl | assumption) ?_
    | refine T_aload_n (pc1 := 12) (pc := 11) k_M_step_11 rfl rfl ?_
    | refine T_aload_nN (pc1 := 12) (pc := 11) k_M_step_11 rfl rfl ?_
    | refine T_getV (pc1 := 15) (pc := 12) k_M_step_12 rfl f_M_232 rfl (by first | exact ga G (by decide) rfl | assumption) (by first | assumption | (simp (disch := omega) only [pI_eq, pI_row, pI_col, va_up_self, va_up_ne, ne_eq, not_false_eq_true, h11] <;> rfl) | rfl) ?_
    | refine T_iload_n (pc1 := 16) (pc := 15) k_M_step_15 rfl rfl ?_
    | refine T_iastN (pc1 := 17) (pc := 16) k_M_step_16 rfl (by first | exact ga G (by decide) rfl | assumption) (by omega) (by omega) ?_
    | refine T_aload_n (pc1 := 18) (pc := 17) k_M_step_17 rfl rfl ?_
    | refine T_aload_nN (pc1 := 18) (pc := 17) k_M_step_17 rfl rfl ?_
    | refine T_dup (pc1 := 19) (pc := 18) k_M_step_18 rfl rfl ?_
    | refine T_getV (pc1 := 22) (pc := 19) k_M_step_19 rfl f_M_232 rfl (by first | exact ga G (by decide) rfl | assumption) (by first | assumption | (simp (disch := omega) only [pI_eq, pI_row, pI_col, va_up_self, va_up_ne, ne_eq, not_false_eq_true, h11] <;> rfl) | rfl) ?_
    | refine T_iconst (v := (nI 1)) (pc1 := 23) (pc := 22) k_M_step_22 rfl (by decide) ?_
    | with_reducible refine T_iaddN (pc1 := 24) (pc := 23) k_M_step_23 (by decide) ?_
    | refine T_iadd (pc1 := 24) (pc := 23) k_M_step_23 rfl ?_
    | refine T_putI (pc1 := 27) (pc := 24) k_M_step_24 rfl f_M_232 rfl (by first | exact ga G (by decide) rfl | assumption) (by first | rfl | decide | assumption) (by first | rfl | decide | assumption) ?_
    | refine T_retV (pc := 27) k_M_step_27 rfl ?_)
  have q : ∀ k v w, k ≠ 19 → pI (pI I 111 (pM p) v) 101 19 w 101 k = I 101 k := fun k v w hk => by rw [pI_col hk, pI_row (by decide)]
  refine kk _ ⟨eqx_pI (eqx_pI eqx_rf _ (by decide)) _ (by decide), fun k hk => q k _ _ (by omega)⟩ ⟨?_, (q _ _ _ (by decide)).trans h2, (q _ _ _ (by decide)).trans h3, (q _ _ _ (by decide)).trans h4, (q _ _ _ (by decide)).trans h5, (q _ _ _ (by decide)).trans h6, (q _ _ _ (by decide)).trans h7, (q _ _ _ (by decide)).trans h8, (q _ _ _ (by decide)).trans h9, (q _ _ _ (by decide)).trans h10, pI_eq, ?_⟩
  · rw [pI_rw (by decide), pI_rw (by decide)]; exact h1
  · rw [pI_rw (by decide), upI h12]; rfl
theorem c_M_stepW {T : Row} {z key : Nat} {p : PS} {c : Int32} (G : GeoOK g) (h : PMw T z key p I) (kk : K none g I) : Cl 1 M_M_step [.ref 101, .int c] g I K := by
  show Rl 1 M_M_step 0 [some (.ref 101), some (.int c)] [] g I K
  obtain ⟨h1, h2, h3, h4, h5, h6, h7⟩ := h
  repeat' (first
    | refine T_aload_n (pc1 := 1) (pc := 0) k_M_step_0 rfl rfl ?_
    | refine T_aload_nN (pc1 := 1) (pc := 0) k_M_step_0 rfl rfl ?_
    | refine T_getV (pc1 := 4) (pc := 1) k_M_step_1 rfl f_M_225 rfl (by first | exact ga G (by decide) rfl | assumption) (by first | assumption | (simp (disch := omega) only [pI_eq, pI_row, pI_col, va_up_self, va_up_ne, ne_eq, not_false_eq_true] <;> rfl) | rfl) ?_
    | (with_reducible refine T_if_neN (tgt := 27) (pc1 := 7) (pc := 4) k_M_step_4 (by decide) (by decide) (by omega) (fun hc => ?_) (fun hc => ?_) <;> first | (exfalso; omega) | skip)
    | refine T_if_ne_t (tgt := 27) (pc := 4) k_M_step_4 rfl (by decide) ?_
    | refine T_if_ne_f (tgt := 27) (pc1 := 7) (pc := 4) k_M_step_4 rfl rfl (by decide) ?_
    | refine T_if_ne (tgt := 27) (pc1 := 7) (pc := 4) k_M_step_4 rfl rfl (fun hc => ?_) (fun hc => ?_)
    | refine T_aload_n (pc1 := 8) (pc := 7) k_M_step_7 rfl rfl ?_
    | refine T_aload_nN (pc1 := 8) (pc := 7) k_M_step_7 rfl rfl ?_
    | refine T_getR (pc1 := 11) (pc := 8) k_M_step_8 rfl f_M_52 rfl (by first | exact ga G (by decide) rfl | assumption) (by first | exact gr G (by decide) rfl | assumption) ?_
    | refine T_aload_n (pc1 := 12) (pc := 11) k_M_step_11 rfl rfl ?_
    | refine T_aload_nN (pc1 := 12) (pc := 11) k_M_step_11 rfl rfl ?_
    | refine T_getV (pc1 := 15) (pc := 12) k_M_step_12 rfl f_M_232 rfl (by first | exact ga G (by decide) rfl | assumption) (by first | assumption | (simp (disch := omega) only [pI_eq, pI_row, pI_col, va_up_self, va_up_ne, ne_eq, not_false_eq_true] <;> rfl) | rfl) ?_
    | refine T_iload_n (pc1 := 16) (pc := 15) k_M_step_15 rfl rfl ?_
    | refine T_iastN (pc1 := 17) (pc := 16) k_M_step_16 rfl (by first | exact ga G (by decide) rfl | assumption) (by omega) (by omega) ?_
    | refine T_aload_n (pc1 := 18) (pc := 17) k_M_step_17 rfl rfl ?_
    | refine T_aload_nN (pc1 := 18) (pc := 17) k_M_step_17 rfl rfl ?_
    | refine T_dup (pc1 := 19) (pc := 18) k_M_step_18 rfl rfl ?_
    | refine T_getV (pc1 := 22) (pc := 19) k_M_step_19 rfl f_M_232 rfl (by first | exact ga G (by decide) rfl | assumption) (by first | assumption | (simp (disch := omega) only [pI_eq, pI_row, pI_col, va_up_self, va_up_ne, ne_eq, not_false_eq_true] <;> rfl) | rfl) ?_
    | refine T_iconst (v := (nI 1)) (pc1 := 23) (pc := 22) k_M_step_22 rfl (by decide) ?_
    | with_reducible refine T_iaddN (pc1 := 24) (pc := 23) k_M_step_23 (by decide) ?_
    | refine T_iadd (pc1 := 24) (pc := 23) k_M_step_23 rfl ?_
    | refine T_putI (pc1 := 27) (pc := 24) k_M_step_24 rfl f_M_232 rfl (by first | exact ga G (by decide) rfl | assumption) (by first | rfl | decide | assumption) (by first | rfl | decide | assumption) ?_
    | refine T_retV (pc := 27) k_M_step_27 rfl ?_)
  exact kk
end M22
