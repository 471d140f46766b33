/-! The model: reading, level by level, by induction. -/
section M24
variable {g : Geo} {T : Row} {z key : Nat}
abbrev dM (mode no op : Nat) : Nat := 30 + (5 - mode) + (8 - no) + 6 * (8 - op)
def MRd (mode : Nat) : Mth := match mode with
  | 0 => M_M_readOr
  | 1 => M_M_readAnd
  | 2 => M_M_readTest
  | 3 => M_M_readSum
  | 4 => M_M_readTerm
  | _ => M_M_readPiece
/-- what reading at a level does -/
def RdC (g : Geo) (T : Row) (z key f mode : Nat) : Prop := ∀ (no op : Nat) (p : PS) (I : IM) (K : Option Value → Geo → IM → Prop), no ≤ 8 → op ≤ 8 → wfP T z p → 7 * (z - pS p) + rkm mode < f → okI (pC p) (pM p) (pV p) (nnOf key) → pM p ≤ pS p → PMo T z key no op p I → (∀ J, (prs T z key f mode no op p).1 = false → FrM I J → PMo T z key no op (prs T z key f mode no op p).2 J → K none g J) → (∀ J, (prs T z key f mode no op p).1 = true → FrM I J → PMw T z key (prs T z key f mode no op p).2 J → K none g J) → Cl (dM mode no op) (MRd mode) [.ref 101] g I K
theorem sg_none {T : Row} {l : Nat} {p : PS} (h : pO p ≠ 3 ∨ sgC l (T (pS p)) = none) : sgOf T l p = none := by
  unfold sgOf
  by_cases c : pO p = 3
  · rw [if_pos c]; exact h.resolve_left (fun q => q c)
  · rw [if_neg c]
theorem sgI_no {T : Row} {p : PS} {c : Nat} (h : sgI T p c = false) : pO p ≠ 3 ∨ ¬ T (pS p) = nI c := by
  by_cases a : pO p = 3
  · by_cases b : T (pS p) = nI c
    · rw [sgI_t a b] at h; cases h
    · exact Or.inr b
  · exact Or.inl a
set_option maxHeartbeats 4000000 in
theorem c_M_readTerm_of {f : Nat} (G : GeoOK g) (hF : g.1.2.2.category = 1) (okt : okTp T z) (hk : key < 3) (IH : ∀ f', f' < f → RdC g T z key f' 5) : RdC g T z key f 4 := by
  intro no op p I K hno hop hw hf hI hM hP k0 k1
  show Rl (dM 4 no op) M_M_readTerm 0 [some (.ref 101), none] [] g I K
  have h96 := okt.1
  generalize hr : prs T z key f 4 no op p = r at k0 k1
  have bad : ∀ o1, ∀ (q : PS) (J : IM), r = (true, q) → FrM I J → PMw T z key q J → Rl (dM 4 no op) M_M_readTerm 4 [some (.ref 101), o1] [] g J K := by
    intro o1 q J hrq hJ hJP
    subst hrq
    repeat' (first
      | ((first | refine T_aload_n (pc1 := 5) (pc := 4) k_M_readTerm_4 rfl rfl ?_ | refine T_aload_nN (pc1 := 5) (pc := 4) k_M_readTerm_4 rfl rfl ?_) <;> try (refine T_bipush (v := (nI 42)) (pc1 := 7) (pc := 5) k_M_readTerm_5 rfl (by decide) ?_ <;> try ((refine T_cV (As := [_]) (d1 := 1) (pc1 := 10) (pc := 7) k_M_readTerm_7 rfl (by show _ < 30 + _ + _ + _; omega) (Nat.le_of_ble_eq_true rfl) rfl o_M_isSign l_M_243 rfl (by first | exact ga G (by decide) rfl | assumption) rfl (c_M_isSignW G hJP ?_) <;> try dsimp only [psh]) <;> try ((first | (with_reducible refine T_if_neN (tgt := 22) (pc1 := 13) (pc := 10) k_M_readTerm_10 (by decide) (by decide) (by omega) (fun hc => ?_) (fun hc => ?_) <;> first | (exfalso; omega) | skip) | refine T_if_ne_t (tgt := 22) (pc := 10) k_M_readTerm_10 rfl (by decide) ?_ | refine T_if_ne_f (tgt := 22) (pc1 := 13) (pc := 10) k_M_readTerm_10 rfl rfl (by decide) ?_ | refine T_if_ne (tgt := 22) (pc1 := 13) (pc := 10) k_M_readTerm_10 rfl rfl (fun hc => ?_) (fun hc => ?_))))))
      | ((first | refine T_aload_n (pc1 := 14) (pc := 13) k_M_readTerm_13 rfl rfl ?_ | refine T_aload_nN (pc1 := 14) (pc := 13) k_M_readTerm_13 rfl rfl ?_) <;> try (refine T_bipush (v := (nI 47)) (pc1 := 16) (pc := 14) k_M_readTerm_14 rfl (by decide) ?_ <;> try ((refine T_cV (As := [_]) (d1 := 1) (pc1 := 19) (pc := 16) k_M_readTerm_16 rfl (by show _ < 30 + _ + _ + _; omega) (Nat.le_of_ble_eq_true rfl) rfl o_M_isSign l_M_243 rfl (by first | exact ga G (by decide) rfl | assumption) rfl (c_M_isSignW G hJP ?_) <;> try dsimp only [psh]) <;> try ((first | (with_reducible refine T_if_eqN (tgt := 61) (pc1 := 22) (pc := 19) k_M_readTerm_19 (by decide) (by decide) (by omega) (fun hc => ?_) (fun hc => ?_) <;> first | (exfalso; omega) | skip) | refine T_if_eq_t (tgt := 61) (pc := 19) k_M_readTerm_19 rfl (by decide) ?_ | refine T_if_eq_f (tgt := 61) (pc1 := 22) (pc := 19) k_M_readTerm_19 rfl rfl (by decide) ?_ | refine T_if_eq (tgt := 61) (pc1 := 22) (pc := 19) k_M_readTerm_19 rfl rfl (fun hc => ?_) (fun hc => ?_))))))
      | ((first | refine T_aload_n (pc1 := 23) (pc := 22) k_M_readTerm_22 rfl rfl ?_ | refine T_aload_nN (pc1 := 23) (pc := 22) k_M_readTerm_22 rfl rfl ?_) <;> try (refine T_getR (pc1 := 26) (pc := 23) k_M_readTerm_23 rfl f_M_28 rfl (by first | exact ga G (by decide) rfl | assumption) (by first | exact gr G (by decide) rfl | assumption) ?_ <;> try ((first | refine T_aload_n (pc1 := 27) (pc := 26) k_M_readTerm_26 rfl rfl ?_ | refine T_aload_nN (pc1 := 27) (pc := 26) k_M_readTerm_26 rfl rfl ?_) <;> try (refine T_getV (pc1 := 30) (pc := 27) k_M_readTerm_27 rfl f_M_213 rfl (by first | exact ga G (by decide) rfl | assumption) (by first | assumption | (simp (disch := omega) only [pI_eq, pI_row, pI_col, va_up_self, va_up_ne, ne_eq, not_false_eq_true] <;> rfl) | rfl) ?_ <;> try ((first | refine T_ialdN (pc1 := 31) (pc := 30) k_M_readTerm_30 rfl (by first | exact ga G (by decide) rfl | assumption) (by omega) (by omega) (by first | assumption | (simp (disch := omega) only [pI_eq, pI_row, pI_col, va_up_self, va_up_ne, ne_eq, not_false_eq_true] <;> rfl) | rfl) ?_ | refine T_iald (pc1 := 31) (pc := 30) k_M_readTerm_30 rfl (by first | exact ga G (by decide) rfl | assumption) (by assumption) ?_) <;> try (refine T_bipush (v := (nI 42)) (pc1 := 33) (pc := 31) k_M_readTerm_31 rfl (by decide) ?_ <;> try ((first | (with_reducible refine T_icmp_neN (tgt := 41) (pc1 := 36) (pc := 33) k_M_readTerm_33 (by decide) (by decide) (by omega) (by omega) (fun hc => ?_) (fun hc => ?_) <;> first | (exfalso; omega) | skip) | refine T_icmp_ne_t (tgt := 41) (pc := 33) k_M_readTerm_33 rfl (by decide) ?_ | refine T_icmp_ne_f (tgt := 41) (pc1 := 36) (pc := 33) k_M_readTerm_33 rfl rfl (by decide) ?_ | refine T_icmp_ne (tgt := 41) (pc1 := 36) (pc := 33) k_M_readTerm_33 rfl rfl (fun hc => ?_) (fun hc => ?_)))))))))
      | (refine T_bipush (v := (-27)) (pc1 := 38) (pc := 36) k_M_readTerm_36 rfl (by decide) ?_ <;> try (refine T_goto (tgt := 43) (pc := 38) k_M_readTerm_38 rfl ?_))
      | (refine T_bipush (v := (-28)) (pc1 := 43) (pc := 41) k_M_readTerm_41 rfl (by decide) ?_)
      | (refine T_istore_n (pc1 := 44) (pc := 43) k_M_readTerm_43 rfl (Nat.le_of_ble_eq_true rfl) ?_ <;> try ((first | refine T_aload_n (pc1 := 45) (pc := 44) k_M_readTerm_44 rfl rfl ?_ | refine T_aload_nN (pc1 := 45) (pc := 44) k_M_readTerm_44 rfl rfl ?_) <;> try (refine T_iconst (v := (nI 1)) (pc1 := 46) (pc := 45) k_M_readTerm_45 rfl (by decide) ?_)))
      | ((first | refine T_aload_n (pc1 := 50) (pc := 49) k_M_readTerm_49 rfl rfl ?_ | refine T_aload_nN (pc1 := 50) (pc := 49) k_M_readTerm_49 rfl rfl ?_))
      | ((first | refine T_aload_n (pc1 := 54) (pc := 53) k_M_readTerm_53 rfl rfl ?_ | refine T_aload_nN (pc1 := 54) (pc := 53) k_M_readTerm_53 rfl rfl ?_) <;> try (refine T_iload_n (pc1 := 55) (pc := 54) k_M_readTerm_54 rfl rfl ?_))
      | (refine T_goto (tgt := 4) (pc := 58) k_M_readTerm_58 rfl ?_)
      | (refine T_retV (pc := 61) k_M_readTerm_61 rfl ?_)
      | refine T_bipush (v := (nI 42)) (pc1 := 7) (pc := 5) k_M_readTerm_5 rfl (by decide) ?_
      | (refine T_cV (As := [_]) (d1 := 1) (pc1 := 10) (pc := 7) k_M_readTerm_7 rfl (by show _ < 30 + _ + _ + _; omega) (Nat.le_of_ble_eq_true rfl) rfl o_M_isSign l_M_243 rfl (by first | exact ga G (by decide) rfl | assumption) rfl (c_M_isSignW G hJP ?_) <;> try dsimp only [psh])
      | (with_reducible refine T_if_neN (tgt := 22) (pc1 := 13) (pc := 10) k_M_readTerm_10 (by decide) (by decide) (by omega) (fun hc => ?_) (fun hc => ?_) <;> first | (exfalso; omega) | skip)
      | refine T_if_ne_t (tgt := 22) (pc := 10) k_M_readTerm_10 rfl (by decide) ?_
      | refine T_if_ne_f (tgt := 22) (pc1 := 13) (pc := 10) k_M_readTerm_10 rfl rfl (by decide) ?_
      | refine T_if_ne (tgt := 22) (pc1 := 13) (pc := 10) k_M_readTerm_10 rfl rfl (fun hc => ?_) (fun hc => ?_)
      | refine T_bipush (v := (nI 47)) (pc1 := 16) (pc := 14) k_M_readTerm_14 rfl (by decide) ?_
      | (refine T_cV (As := [_]) (d1 := 1) (pc1 := 19) (pc := 16) k_M_readTerm_16 rfl (by show _ < 30 + _ + _ + _; omega) (Nat.le_of_ble_eq_true rfl) rfl o_M_isSign l_M_243 rfl (by first | exact ga G (by decide) rfl | assumption) rfl (c_M_isSignW G hJP ?_) <;> try dsimp only [psh])
      | (with_reducible refine T_if_eqN (tgt := 61) (pc1 := 22) (pc := 19) k_M_readTerm_19 (by decide) (by decide) (by omega) (fun hc => ?_) (fun hc => ?_) <;> first | (exfalso; omega) | skip)
      | refine T_if_eq_t (tgt := 61) (pc := 19) k_M_readTerm_19 rfl (by decide) ?_
      | refine T_if_eq_f (tgt := 61) (pc1 := 22) (pc := 19) k_M_readTerm_19 rfl rfl (by decide) ?_
      | refine T_if_eq (tgt := 61) (pc1 := 22) (pc := 19) k_M_readTerm_19 rfl rfl (fun hc => ?_) (fun hc => ?_)
      | refine T_getR (pc1 := 26) (pc := 23) k_M_readTerm_23 rfl f_M_28 rfl (by first | exact ga G (by decide) rfl | assumption) (by first | exact gr G (by decide) rfl | assumption) ?_
      | refine T_aload_n (pc1 := 27) (pc := 26) k_M_readTerm_26 rfl rfl ?_
      | refine T_aload_nN (pc1 := 27) (pc := 26) k_M_readTerm_26 rfl rfl ?_
      | refine T_getV (pc1 := 30) (pc := 27) k_M_readTerm_27 rfl f_M_213 rfl (by first | exact ga G (by decide) rfl | assumption) (by first | assumption | (simp (disch := omega) only [pI_eq, pI_row, pI_col, va_up_self, va_up_ne, ne_eq, not_false_eq_true] <;> rfl) | rfl) ?_
      | refine T_ialdN (pc1 := 31) (pc := 30) k_M_readTerm_30 rfl (by first | exact ga G (by decide) rfl | assumption) (by omega) (by omega) (by first | assumption | (simp (disch := omega) only [pI_eq, pI_row, pI_col, va_up_self, va_up_ne, ne_eq, not_false_eq_true] <;> rfl) | rfl) ?_
      | refine T_iald (pc1 := 31) (pc := 30) k_M_readTerm_30 rfl (by first | exact ga G (by decide) rfl | assumption) (by assumption) ?_
      | refine T_bipush (v := (nI 42)) (pc1 := 33) (pc := 31) k_M_readTerm_31 rfl (by decide) ?_
      | (with_reducible refine T_icmp_neN (tgt := 41) (pc1 := 36) (pc := 33) k_M_readTerm_33 (by decide) (by decide) (by omega) (by omega) (fun hc => ?_) (fun hc => ?_) <;> first | (exfalso; omega) | skip)
      | refine T_icmp_ne_t (tgt := 41) (pc := 33) k_M_readTerm_33 rfl (by decide) ?_
      | refine T_icmp_ne_f (tgt := 41) (pc1 := 36) (pc := 33) k_M_readTerm_33 rfl rfl (by decide) ?_
      | refine T_icmp_ne (tgt := 41) (pc1 := 36) (pc := 33) k_M_readTerm_33 rfl rfl (fun hc => ?_) (fun hc => ?_)
      | refine T_goto (tgt := 43) (pc := 38) k_M_readTerm_38 rfl ?_
      | refine T_aload_n (pc1 := 45) (pc := 44) k_M_readTerm_44 rfl rfl ?_
      | refine T_aload_nN (pc1 := 45) (pc := 44) k_M_readTerm_44 rfl rfl ?_
      | refine T_iconst (v := (nI 1)) (pc1 := 46) (pc := 45) k_M_readTerm_45 rfl (by decide) ?_
      | refine T_iload_n (pc1 := 55) (pc := 54) k_M_readTerm_54 rfl rfl ?_)
    exact k1 J rfl hJ hJP
  have loop : ∀ q, q < f → ∀ o1, ∀ (p : PS) (J : IM), wfP T z p → 7 * (z - pS p) + 6 < q → okI (pC p) (pM p) (pV p) (nnOf key) → 1 ≤ dp (pC p) (pM p) → pM p ≤ pS p → PMo T z key no op p J → FrM I J → prs T z key q 14 no op p = r → Rl (dM 4 no op) M_M_readTerm 4 [some (.ref 101), o1] [] g J K := by
    intro q
    induction q with
    | zero => intro hq o1 p J hw hf; exfalso; omega
    | succ q ih =>
      intro hq o1 p J hw hf hI hd hM hP hFr hr
      have w1 := hw.1
      have w2 := hw.2.1
      rw [prs, if_neg (by decide), if_neg (by decide)] at hr
      obtain ⟨n1, n2⟩ := nx_wf okt w2
      have n3 := n1.1
      have n4 := n1.2.1
      obtain ⟨h1, h2, h3, h4, h5, h6, h7, h8, h9, h10, h11, h12⟩ := id hP
      have none_ : sgOf T 4 p = none → Rl (dM 4 no op) M_M_readTerm 61 [some (.ref 101), o1] [] g J K := by
        intro hs
        rw [hs] at hr
        dsimp only at hr
        subst hr
        repeat' (first
          | (refine T_retV (pc := 61) k_M_readTerm_61 rfl ?_))
        exact k0 J rfl hFr hP
      have some_ : ∀ c : Int32, sgOf T 4 p = some c → ∀ J1 : IM, FrM J J1 → PMo T z key no op (nx T z p) J1 → Rl (dM 4 no op) M_M_readTerm 49 [some (.ref 101), some (.int c)] [] g J1 K := by
        intro c hs J1 hJ1 hJ1P
        rw [hs] at hr
        dsimp only at hr
        have w4 := hw.2.2.1 (by rw [(sgOf_3 hs).1]; decide)
        obtain ⟨qa, qb⟩ := sgC_op (sgOf_3 hs).2
        have nI0 : okI (pC (nx T z p)) (pM (nx T z p)) (pV (nx T z p)) (nnOf key) := hI
        have nM : pM (nx T z p) ≤ pS (nx T z p) := by show pM p ≤ pS (nx T z p); omega
        have nf : 7 * (z - pS (nx T z p)) + rkm 5 < q := by rw [rkm_le (by decide)]; omega
        have h1 := prs_ok okt hk q 5 no op (nx T z p) (Or.inl (by decide)) n1 nf nI0 (by omega)
        first | refine T_aload_n (pc1 := 50) (pc := 49) k_M_readTerm_49 rfl rfl ?_ | refine T_aload_nN (pc1 := 50) (pc := 49) k_M_readTerm_49 rfl rfl ?_
        refine T_cV (As := []) (d1 := dM 5 no op) (pc1 := 53) (pc := 50) k_M_readTerm_50 rfl (by show 30 + _ + _ + _ < 30 + _ + _ + _; omega) (Nat.le_of_ble_eq_true rfl) rfl o_M_readPiece l_M_253 rfl (ga G (by decide) rfl) rfl (IH q (by omega) no op (nx T z p) J1 _ hno hop n1 nf nI0 nM hJ1P (fun J2 hb hJ2 hJ2P => ?_) (fun J2 hb hJ2 hJ2P => ?_)) <;> try dsimp only [psh]
        · have e9 : 14 - 9 = 5 := rfl
          rw [e9, hb, if_neg (by decide), if_neg (by decide)] at hr
          obtain ⟨a1, a2, a3⟩ := h1
          obtain ⟨b1, b2, b3, b4, b5⟩ := a3 hb
          have b1 := b1 (by decide)
          rw [if_pos (by decide)] at b5
          have b5 : dp (pC (prs T z key q 5 no op (nx T z p)).2) (pM (prs T z key q 5 no op (nx T z p)).2) = dp (pC p) (pM p) + 1 := b5
          have b3 : pM (prs T z key q 5 no op (nx T z p)).2 + pS (nx T z p) ≤ pM p + pS (prs T z key q 5 no op (nx T z p)).2 := b3
          generalize (prs T z key q 5 no op (nx T z p)).2 = p1 at *
          have a5 := a1.1
          have a6 := a1.2.1
          obtain ⟨o1, o2⟩ := okI_two b4 qa qb (by omega)
          repeat' (first
            | ((first | refine T_aload_n (pc1 := 54) (pc := 53) k_M_readTerm_53 rfl rfl ?_ | refine T_aload_nN (pc1 := 54) (pc := 53) k_M_readTerm_53 rfl rfl ?_) <;> try (refine T_iload_n (pc1 := 55) (pc := 54) k_M_readTerm_54 rfl rfl ?_ <;> try ((refine T_cV (As := [_]) (d1 := 1) (pc1 := 58) (pc := 55) k_M_readTerm_55 rfl (by show _ < 30 + _ + _ + _; omega) (Nat.le_of_ble_eq_true rfl) rfl o_M_step l_M_256 rfl (by first | exact ga G (by decide) rfl | assumption) rfl (c_M_stepO G hJ2P (by omega) (fun J3 hJ3 hJ3P => ?_)) <;> try dsimp only [psh]) <;> try (refine T_goto (tgt := 4) (pc := 58) k_M_readTerm_58 rfl ?_))))
            | refine T_iload_n (pc1 := 55) (pc := 54) k_M_readTerm_54 rfl rfl ?_
            | (refine T_cV (As := [_]) (d1 := 1) (pc1 := 58) (pc := 55) k_M_readTerm_55 rfl (by show _ < 30 + _ + _ + _; omega) (Nat.le_of_ble_eq_true rfl) rfl o_M_step l_M_256 rfl (by first | exact ga G (by decide) rfl | assumption) rfl (c_M_stepO G hJ2P (by omega) (fun J3 hJ3 hJ3P => ?_)) <;> try dsimp only [psh])
            | refine T_goto (tgt := 4) (pc := 58) k_M_readTerm_58 rfl ?_)
          exact ih (by omega) _ (ps1 p1 _) J3 a1 (by show 7 * (z - pS p1) + 6 < q; omega) o1 (by show 1 ≤ dp (va_up (pC p1) (pM p1) _) (pM p1 + 1); rw [o2]; omega) (by show pM p1 + 1 ≤ pS p1; omega) hJ3P (FrM_tr hFr (FrM_tr hJ1 (FrM_tr hJ2 hJ3))) hr
        · have e9 : 14 - 9 = 5 := rfl
          rw [e9, hb, if_pos rfl] at hr
          repeat' (first
            | ((first | refine T_aload_n (pc1 := 54) (pc := 53) k_M_readTerm_53 rfl rfl ?_ | refine T_aload_nN (pc1 := 54) (pc := 53) k_M_readTerm_53 rfl rfl ?_) <;> try (refine T_iload_n (pc1 := 55) (pc := 54) k_M_readTerm_54 rfl rfl ?_ <;> try ((refine T_cV (As := [_]) (d1 := 1) (pc1 := 58) (pc := 55) k_M_readTerm_55 rfl (by show _ < 30 + _ + _ + _; omega) (Nat.le_of_ble_eq_true rfl) rfl o_M_step l_M_256 rfl (by first | exact ga G (by decide) rfl | assumption) rfl (c_M_stepW G hJ2P ?_) <;> try dsimp only [psh]) <;> try (refine T_goto (tgt := 4) (pc := 58) k_M_readTerm_58 rfl ?_))))
            | refine T_iload_n (pc1 := 55) (pc := 54) k_M_readTerm_54 rfl rfl ?_
            | (refine T_cV (As := [_]) (d1 := 1) (pc1 := 58) (pc := 55) k_M_readTerm_55 rfl (by show _ < 30 + _ + _ + _; omega) (Nat.le_of_ble_eq_true rfl) rfl o_M_step l_M_256 rfl (by first | exact ga G (by decide) rfl | assumption) rfl (c_M_stepW G hJ2P ?_) <;> try dsimp only [psh])
            | refine T_goto (tgt := 4) (pc := 58) k_M_readTerm_58 rfl ?_)
          exact bad _ _ J2 hr.symm (FrM_tr hFr (FrM_tr hJ1 hJ2)) hJ2P
      first | refine T_aload_n (pc1 := 5) (pc := 4) k_M_readTerm_4 rfl rfl ?_ | refine T_aload_nN (pc1 := 5) (pc := 4) k_M_readTerm_4 rfl rfl ?_
      repeat' (first
        | (refine T_bipush (v := (nI 42)) (pc1 := 7) (pc := 5) k_M_readTerm_5 rfl (by decide) ?_ <;> try ((refine T_cV (As := [_]) (d1 := 1) (pc1 := 10) (pc := 7) k_M_readTerm_7 rfl (by show _ < 30 + _ + _ + _; omega) (Nat.le_of_ble_eq_true rfl) rfl o_M_isSign l_M_243 rfl (by first | exact ga G (by decide) rfl | assumption) rfl (c_M_isSignO G okt (by decide) hP hw (fun hs42 => ?_) (fun hs42 => ?_)) <;> try dsimp only [psh]) <;> try ((first | (with_reducible refine T_if_neN (tgt := 22) (pc1 := 13) (pc := 10) k_M_readTerm_10 (by decide) (by decide) (by omega) (fun hc => ?_) (fun hc => ?_) <;> first | (exfalso; omega) | skip) | refine T_if_ne_t (tgt := 22) (pc := 10) k_M_readTerm_10 rfl (by decide) ?_ | refine T_if_ne_f (tgt := 22) (pc1 := 13) (pc := 10) k_M_readTerm_10 rfl rfl (by decide) ?_ | refine T_if_ne (tgt := 22) (pc1 := 13) (pc := 10) k_M_readTerm_10 rfl rfl (fun hc => ?_) (fun hc => ?_)))))
        | ((first | refine T_aload_n (pc1 := 14) (pc := 13) k_M_readTerm_13 rfl rfl ?_ | refine T_aload_nN (pc1 := 14) (pc := 13) k_M_readTerm_13 rfl rfl ?_) <;> try (refine T_bipush (v := (nI 47)) (pc1 := 16) (pc := 14) k_M_readTerm_14 rfl (by decide) ?_ <;> try ((refine T_cV (As := [_]) (d1 := 1) (pc1 := 19) (pc := 16) k_M_readTerm_16 rfl (by show _ < 30 + _ + _ + _; omega) (Nat.le_of_ble_eq_true rfl) rfl o_M_isSign l_M_243 rfl (by first | exact ga G (by decide) rfl | assumption) rfl (c_M_isSignO G okt (by decide) hP hw (fun hs47 => ?_) (fun hs47 => ?_)) <;> try dsimp only [psh]) <;> try ((first | (with_reducible refine T_if_eqN (tgt := 61) (pc1 := 22) (pc := 19) k_M_readTerm_19 (by decide) (by decide) (by omega) (fun hc => ?_) (fun hc => ?_) <;> first | (exfalso; omega) | skip) | refine T_if_eq_t (tgt := 61) (pc := 19) k_M_readTerm_19 rfl (by decide) ?_ | refine T_if_eq_f (tgt := 61) (pc1 := 22) (pc := 19) k_M_readTerm_19 rfl rfl (by decide) ?_ | refine T_if_eq (tgt := 61) (pc1 := 22) (pc := 19) k_M_readTerm_19 rfl rfl (fun hc => ?_) (fun hc => ?_))))))
        | (refine T_cV (As := [_]) (d1 := 1) (pc1 := 10) (pc := 7) k_M_readTerm_7 rfl (by show _ < 30 + _ + _ + _; omega) (Nat.le_of_ble_eq_true rfl) rfl o_M_isSign l_M_243 rfl (by first | exact ga G (by decide) rfl | assumption) rfl (c_M_isSignO G okt (by decide) hP hw (fun hs42 => ?_) (fun hs42 => ?_)) <;> try dsimp only [psh])
        | (with_reducible refine T_if_neN (tgt := 22) (pc1 := 13) (pc := 10) k_M_readTerm_10 (by decide) (by decide) (by omega) (fun hc => ?_) (fun hc => ?_) <;> first | (exfalso; omega) | skip)
        | refine T_if_ne_t (tgt := 22) (pc := 10) k_M_readTerm_10 rfl (by decide) ?_
        | refine T_if_ne_f (tgt := 22) (pc1 := 13) (pc := 10) k_M_readTerm_10 rfl rfl (by decide) ?_
        | refine T_if_ne (tgt := 22) (pc1 := 13) (pc := 10) k_M_readTerm_10 rfl rfl (fun hc => ?_) (fun hc => ?_)
        | refine T_bipush (v := (nI 47)) (pc1 := 16) (pc := 14) k_M_readTerm_14 rfl (by decide) ?_
        | (refine T_cV (As := [_]) (d1 := 1) (pc1 := 19) (pc := 16) k_M_readTerm_16 rfl (by show _ < 30 + _ + _ + _; omega) (Nat.le_of_ble_eq_true rfl) rfl o_M_isSign l_M_243 rfl (by first | exact ga G (by decide) rfl | assumption) rfl (c_M_isSignO G okt (by decide) hP hw (fun hs47 => ?_) (fun hs47 => ?_)) <;> try dsimp only [psh])
        | (with_reducible refine T_if_eqN (tgt := 61) (pc1 := 22) (pc := 19) k_M_readTerm_19 (by decide) (by decide) (by omega) (fun hc => ?_) (fun hc => ?_) <;> first | (exfalso; omega) | skip)
        | refine T_if_eq_t (tgt := 61) (pc := 19) k_M_readTerm_19 rfl (by decide) ?_
        | refine T_if_eq_f (tgt := 61) (pc1 := 22) (pc := 19) k_M_readTerm_19 rfl rfl (by decide) ?_
        | refine T_if_eq (tgt := 61) (pc1 := 22) (pc := 19) k_M_readTerm_19 rfl rfl (fun hc => ?_) (fun hc => ?_))
      · have w4 := hw.2.2.1 (by rw [(sgI_3 hs42).1]; decide)
        have e : J 108 (pS p) = nI 42 := by rw [h1]; exact (sgI_3 hs42).2
        have hs : sgOf T 4 p = some (-27) := by
          unfold sgOf
          rw [if_pos (sgI_3 hs42).1, (sgI_3 hs42).2]
          rfl
        repeat' (first
          | ((first | refine T_aload_n (pc1 := 23) (pc := 22) k_M_readTerm_22 rfl rfl ?_ | refine T_aload_nN (pc1 := 23) (pc := 22) k_M_readTerm_22 rfl rfl ?_) <;> try (refine T_getR (pc1 := 26) (pc := 23) k_M_readTerm_23 rfl f_M_28 rfl (by first | exact ga G (by decide) rfl | assumption) (by first | exact gr G (by decide) rfl | assumption) ?_ <;> try ((first | refine T_aload_n (pc1 := 27) (pc := 26) k_M_readTerm_26 rfl rfl ?_ | refine T_aload_nN (pc1 := 27) (pc := 26) k_M_readTerm_26 rfl rfl ?_) <;> try (refine T_getV (pc1 := 30) (pc := 27) k_M_readTerm_27 rfl f_M_213 rfl (by first | exact ga G (by decide) rfl | assumption) (by first | assumption | (simp (disch := omega) only [pI_eq, pI_row, pI_col, va_up_self, va_up_ne, ne_eq, not_false_eq_true] <;> rfl) | rfl) ?_ <;> try ((first | refine T_ialdN (pc1 := 31) (pc := 30) k_M_readTerm_30 rfl (by first | exact ga G (by decide) rfl | assumption) (by omega) (by omega) (by first | assumption | (simp (disch := omega) only [pI_eq, pI_row, pI_col, va_up_self, va_up_ne, ne_eq, not_false_eq_true] <;> rfl) | rfl) ?_ | refine T_iald (pc1 := 31) (pc := 30) k_M_readTerm_30 rfl (by first | exact ga G (by decide) rfl | assumption) (by assumption) ?_) <;> try (refine T_bipush (v := (nI 42)) (pc1 := 33) (pc := 31) k_M_readTerm_31 rfl (by decide) ?_ <;> try ((first | (with_reducible refine T_icmp_neN (tgt := 41) (pc1 := 36) (pc := 33) k_M_readTerm_33 (by decide) (by decide) (by omega) (by omega) (fun hc => ?_) (fun hc => ?_) <;> first | (exfalso; omega) | skip) | refine T_icmp_ne_t (tgt := 41) (pc := 33) k_M_readTerm_33 rfl (by decide) ?_ | refine T_icmp_ne_f (tgt := 41) (pc1 := 36) (pc := 33) k_M_readTerm_33 rfl rfl (by decide) ?_ | refine T_icmp_ne (tgt := 41) (pc1 := 36) (pc := 33) k_M_readTerm_33 rfl rfl (fun hc => ?_) (fun hc => ?_)))))))))
          | (refine T_bipush (v := (-27)) (pc1 := 38) (pc := 36) k_M_readTerm_36 rfl (by decide) ?_ <;> try (refine T_goto (tgt := 43) (pc := 38) k_M_readTerm_38 rfl ?_))
          | (refine T_bipush (v := (-28)) (pc1 := 43) (pc := 41) k_M_readTerm_41 rfl (by decide) ?_)
          | (refine T_istore_n (pc1 := 44) (pc := 43) k_M_readTerm_43 rfl (Nat.le_of_ble_eq_true rfl) ?_ <;> try ((first | refine T_aload_n (pc1 := 45) (pc := 44) k_M_readTerm_44 rfl rfl ?_ | refine T_aload_nN (pc1 := 45) (pc := 44) k_M_readTerm_44 rfl rfl ?_) <;> try (refine T_iconst (v := (nI 1)) (pc1 := 46) (pc := 45) k_M_readTerm_45 rfl (by decide) ?_ <;> try ((refine T_cV (As := [_]) (d1 := 4) (pc1 := 49) (pc := 46) k_M_readTerm_46 rfl (by show _ < 30 + _ + _ + _; omega) (Nat.le_of_ble_eq_true rfl) rfl o_M_must l_M_249 rfl (by first | exact ga G (by decide) rfl | assumption) rfl (c_M_must1 G okt hP hw (fun J1 hJ1 hJ1P => ?_)) <;> try dsimp only [psh])))))
          | refine T_getR (pc1 := 26) (pc := 23) k_M_readTerm_23 rfl f_M_28 rfl (by first | exact ga G (by decide) rfl | assumption) (by first | exact gr G (by decide) rfl | assumption) ?_
          | refine T_aload_n (pc1 := 27) (pc := 26) k_M_readTerm_26 rfl rfl ?_
          | refine T_aload_nN (pc1 := 27) (pc := 26) k_M_readTerm_26 rfl rfl ?_
          | refine T_getV (pc1 := 30) (pc := 27) k_M_readTerm_27 rfl f_M_213 rfl (by first | exact ga G (by decide) rfl | assumption) (by first | assumption | (simp (disch := omega) only [pI_eq, pI_row, pI_col, va_up_self, va_up_ne, ne_eq, not_false_eq_true] <;> rfl) | rfl) ?_
          | refine T_ialdN (pc1 := 31) (pc := 30) k_M_readTerm_30 rfl (by first | exact ga G (by decide) rfl | assumption) (by omega) (by omega) (by first | assumption | (simp (disch := omega) only [pI_eq, pI_row, pI_col, va_up_self, va_up_ne, ne_eq, not_false_eq_true] <;> rfl) | rfl) ?_
          | refine T_iald (pc1 := 31) (pc := 30) k_M_readTerm_30 rfl (by first | exact ga G (by decide) rfl | assumption) (by assumption) ?_
          | refine T_bipush (v := (nI 42)) (pc1 := 33) (pc := 31) k_M_readTerm_31 rfl (by decide) ?_
          | (with_reducible refine T_icmp_neN (tgt := 41) (pc1 := 36) (pc := 33) k_M_readTerm_33 (by decide) (by decide) (by omega) (by omega) (fun hc => ?_) (fun hc => ?_) <;> first | (exfalso; omega) | skip)
          | refine T_icmp_ne_t (tgt := 41) (pc := 33) k_M_readTerm_33 rfl (by decide) ?_
          | refine T_icmp_ne_f (tgt := 41) (pc1 := 36) (pc := 33) k_M_readTerm_33 rfl rfl (by decide) ?_
          | refine T_icmp_ne (tgt := 41) (pc1 := 36) (pc := 33) k_M_readTerm_33 rfl rfl (fun hc => ?_) (fun hc => ?_)
          | refine T_goto (tgt := 43) (pc := 38) k_M_readTerm_38 rfl ?_
          | refine T_aload_n (pc1 := 45) (pc := 44) k_M_readTerm_44 rfl rfl ?_
          | refine T_aload_nN (pc1 := 45) (pc := 44) k_M_readTerm_44 rfl rfl ?_
          | refine T_iconst (v := (nI 1)) (pc1 := 46) (pc := 45) k_M_readTerm_45 rfl (by decide) ?_
          | (refine T_cV (As := [_]) (d1 := 4) (pc1 := 49) (pc := 46) k_M_readTerm_46 rfl (by show _ < 30 + _ + _ + _; omega) (Nat.le_of_ble_eq_true rfl) rfl o_M_must l_M_249 rfl (by first | exact ga G (by decide) rfl | assumption) rfl (c_M_must1 G okt hP hw (fun J1 hJ1 hJ1P => ?_)) <;> try dsimp only [psh]))
        exact some_ _ hs J1 hJ1 hJ1P
      · have w4 := hw.2.2.1 (by rw [(sgI_3 hs47).1]; decide)
        have e : J 108 (pS p) = nI 47 := by rw [h1]; exact (sgI_3 hs47).2
        have hs : sgOf T 4 p = some (-28) := by
          unfold sgOf
          rw [if_pos (sgI_3 hs47).1, (sgI_3 hs47).2]
          rfl
        repeat' (first
          | ((first | refine T_aload_n (pc1 := 23) (pc := 22) k_M_readTerm_22 rfl rfl ?_ | refine T_aload_nN (pc1 := 23) (pc := 22) k_M_readTerm_22 rfl rfl ?_) <;> try (refine T_getR (pc1 := 26) (pc := 23) k_M_readTerm_23 rfl f_M_28 rfl (by first | exact ga G (by decide) rfl | assumption) (by first | exact gr G (by decide) rfl | assumption) ?_ <;> try ((first | refine T_aload_n (pc1 := 27) (pc := 26) k_M_readTerm_26 rfl rfl ?_ | refine T_aload_nN (pc1 := 27) (pc := 26) k_M_readTerm_26 rfl rfl ?_) <;> try (refine T_getV (pc1 := 30) (pc := 27) k_M_readTerm_27 rfl f_M_213 rfl (by first | exact ga G (by decide) rfl | assumption) (by first | assumption | (simp (disch := omega) only [pI_eq, pI_row, pI_col, va_up_self, va_up_ne, ne_eq, not_false_eq_true] <;> rfl) | rfl) ?_ <;> try ((first | refine T_ialdN (pc1 := 31) (pc := 30) k_M_readTerm_30 rfl (by first | exact ga G (by decide) rfl | assumption) (by omega) (by omega) (by first | assumption | (simp (disch := omega) only [pI_eq, pI_row, pI_col, va_up_self, va_up_ne, ne_eq, not_false_eq_true] <;> rfl) | rfl) ?_ | refine T_iald (pc1 := 31) (pc := 30) k_M_readTerm_30 rfl (by first | exact ga G (by decide) rfl | assumption) (by assumption) ?_) <;> try (refine T_bipush (v := (nI 42)) (pc1 := 33) (pc := 31) k_M_readTerm_31 rfl (by decide) ?_ <;> try ((first | (with_reducible refine T_icmp_neN (tgt := 41) (pc1 := 36) (pc := 33) k_M_readTerm_33 (by decide) (by decide) (by omega) (by omega) (fun hc => ?_) (fun hc => ?_) <;> first | (exfalso; omega) | skip) | refine T_icmp_ne_t (tgt := 41) (pc := 33) k_M_readTerm_33 rfl (by decide) ?_ | refine T_icmp_ne_f (tgt := 41) (pc1 := 36) (pc := 33) k_M_readTerm_33 rfl rfl (by decide) ?_ | refine T_icmp_ne (tgt := 41) (pc1 := 36) (pc := 33) k_M_readTerm_33 rfl rfl (fun hc => ?_) (fun hc => ?_)))))))))
          | (refine T_bipush (v := (-27)) (pc1 := 38) (pc := 36) k_M_readTerm_36 rfl (by decide) ?_ <;> try (refine T_goto (tgt := 43) (pc := 38) k_M_readTerm_38 rfl ?_))
          | (refine T_bipush (v := (-28)) (pc1 := 43) (pc := 41) k_M_readTerm_41 rfl (by decide) ?_)
          | (refine T_istore_n (pc1 := 44) (pc := 43) k_M_readTerm_43 rfl (Nat.le_of_ble_eq_true rfl) ?_ <;> try ((first | refine T_aload_n (pc1 := 45) (pc := 44) k_M_readTerm_44 rfl rfl ?_ | refine T_aload_nN (pc1 := 45) (pc := 44) k_M_readTerm_44 rfl rfl ?_) <;> try (refine T_iconst (v := (nI 1)) (pc1 := 46) (pc := 45) k_M_readTerm_45 rfl (by decide) ?_ <;> try ((refine T_cV (As := [_]) (d1 := 4) (pc1 := 49) (pc := 46) k_M_readTerm_46 rfl (by show _ < 30 + _ + _ + _; omega) (Nat.le_of_ble_eq_true rfl) rfl o_M_must l_M_249 rfl (by first | exact ga G (by decide) rfl | assumption) rfl (c_M_must1 G okt hP hw (fun J1 hJ1 hJ1P => ?_)) <;> try dsimp only [psh])))))
          | refine T_getR (pc1 := 26) (pc := 23) k_M_readTerm_23 rfl f_M_28 rfl (by first | exact ga G (by decide) rfl | assumption) (by first | exact gr G (by decide) rfl | assumption) ?_
          | refine T_aload_n (pc1 := 27) (pc := 26) k_M_readTerm_26 rfl rfl ?_
          | refine T_aload_nN (pc1 := 27) (pc := 26) k_M_readTerm_26 rfl rfl ?_
          | refine T_getV (pc1 := 30) (pc := 27) k_M_readTerm_27 rfl f_M_213 rfl (by first | exact ga G (by decide) rfl | assumption) (by first | assumption | (simp (disch := omega) only [pI_eq, pI_row, pI_col, va_up_self, va_up_ne, ne_eq, not_false_eq_true] <;> rfl) | rfl) ?_
          | refine T_ialdN (pc1 := 31) (pc := 30) k_M_readTerm_30 rfl (by first | exact ga G (by decide) rfl | assumption) (by omega) (by omega) (by first | assumption | (simp (disch := omega) only [pI_eq, pI_row, pI_col, va_up_self, va_up_ne, ne_eq, not_false_eq_true] <;> rfl) | rfl) ?_
          | refine T_iald (pc1 := 31) (pc := 30) k_M_readTerm_30 rfl (by first | exact ga G (by decide) rfl | assumption) (by assumption) ?_
          | refine T_bipush (v := (nI 42)) (pc1 := 33) (pc := 31) k_M_readTerm_31 rfl (by decide) ?_
          | (with_reducible refine T_icmp_neN (tgt := 41) (pc1 := 36) (pc := 33) k_M_readTerm_33 (by decide) (by decide) (by omega) (by omega) (fun hc => ?_) (fun hc => ?_) <;> first | (exfalso; omega) | skip)
          | refine T_icmp_ne_t (tgt := 41) (pc := 33) k_M_readTerm_33 rfl (by decide) ?_
          | refine T_icmp_ne_f (tgt := 41) (pc1 := 36) (pc := 33) k_M_readTerm_33 rfl rfl (by decide) ?_
          | refine T_icmp_ne (tgt := 41) (pc1 := 36) (pc := 33) k_M_readTerm_33 rfl rfl (fun hc => ?_) (fun hc => ?_)
          | refine T_goto (tgt := 43) (pc := 38) k_M_readTerm_38 rfl ?_
          | refine T_aload_n (pc1 := 45) (pc := 44) k_M_readTerm_44 rfl rfl ?_
          | refine T_aload_nN (pc1 := 45) (pc := 44) k_M_readTerm_44 rfl rfl ?_
          | refine T_iconst (v := (nI 1)) (pc1 := 46) (pc := 45) k_M_readTerm_45 rfl (by decide) ?_
          | (refine T_cV (As := [_]) (d1 := 4) (pc1 := 49) (pc := 46) k_M_readTerm_46 rfl (by show _ < 30 + _ + _ + _; omega) (Nat.le_of_ble_eq_true rfl) rfl o_M_must l_M_249 rfl (by first | exact ga G (by decide) rfl | assumption) rfl (c_M_must1 G okt hP hw (fun J1 hJ1 hJ1P => ?_)) <;> try dsimp only [psh]))
        exact some_ _ hs J1 hJ1 hJ1P
      · refine none_ (sg_none ?_)
        by_cases c3 : pO p = 3
        · refine Or.inr ?_
          have x42 := (sgI_no hs42).resolve_left (fun q => q c3)
          have x47 := (sgI_no hs47).resolve_left (fun q => q c3)
          show (if T (pS p) = nI 42 then some (-27 : Int32) else if T (pS p) = nI 47 then some (-28 : Int32) else none) = none
          rw [if_neg x42, if_neg x47]
        · exact Or.inl c3
  cases f with
  | zero => exfalso; omega
  | succ f =>
    rw [prs, if_pos (by decide)] at hr
    rw [rkm_le (by decide)] at hf
    have nf : 7 * (z - pS p) + rkm 5 < f := by rw [rkm_le (by decide)]; omega
    have h1 := prs_ok okt hk f 5 no op p (Or.inl (by decide)) hw nf hI (by omega)
    first | refine T_aload_n (pc1 := 1) (pc := 0) k_M_readTerm_0 rfl rfl ?_ | refine T_aload_nN (pc1 := 1) (pc := 0) k_M_readTerm_0 rfl rfl ?_
    refine T_cV (As := []) (d1 := dM 5 no op) (pc1 := 4) (pc := 1) k_M_readTerm_1 rfl (by show 30 + _ + _ + _ < 30 + _ + _ + _; omega) (Nat.le_of_ble_eq_true rfl) rfl o_M_readPiece l_M_253 rfl (ga G (by decide) rfl) rfl (IH f (by omega) no op p I _ hno hop hw nf hI hM hP (fun J2 hb hJ2 hJ2P => ?_) (fun J2 hb hJ2 hJ2P => ?_)) <;> try dsimp only [psh]
    · have e9 : 4 + 1 = 5 := rfl
      rw [e9, hb, if_neg (by decide)] at hr
      obtain ⟨a1, a2, a3⟩ := h1
      obtain ⟨b1, b2, b3, b4, b5⟩ := a3 hb
      have b1 := b1 (by decide)
      rw [if_pos (by decide)] at b5
      have a5 := a1.1
      have a6 := a1.2.1
      exact loop f (by omega) _ _ J2 a1 (by omega) b4 (by omega) (by omega) hJ2P hJ2 hr
    · have e9 : 4 + 1 = 5 := rfl
      rw [e9, hb, if_pos rfl] at hr
      exact bad _ _ J2 hr.symm hJ2 hJ2P
set_option maxHeartbeats 4000000 in
theorem c_M_readSum_of {f : Nat} (G : GeoOK g) (hF : g.1.2.2.category = 1) (okt : okTp T z) (hk : key < 3) (IH : ∀ f', f' < f → RdC g T z key f' 4) : RdC g T z key f 3 := by
  intro no op p I K hno hop hw hf hI hM hP k0 k1
  show Rl (dM 3 no op) M_M_readSum 0 [some (.ref 101), none] [] g I K
  have h96 := okt.1
  generalize hr : prs T z key f 3 no op p = r at k0 k1
  have bad : ∀ o1, ∀ (q : PS) (J : IM), r = (true, q) → FrM I J → PMw T z key q J → Rl (dM 3 no op) M_M_readSum 4 [some (.ref 101), o1] [] g J K := by
    intro o1 q J hrq hJ hJP
    subst hrq
    repeat' (first
      | ((first | refine T_aload_n (pc1 := 5) (pc := 4) k_M_readSum_4 rfl rfl ?_ | refine T_aload_nN (pc1 := 5) (pc := 4) k_M_readSum_4 rfl rfl ?_) <;> try (refine T_bipush (v := (nI 43)) (pc1 := 7) (pc := 5) k_M_readSum_5 rfl (by decide) ?_ <;> try ((refine T_cV (As := [_]) (d1 := 1) (pc1 := 10) (pc := 7) k_M_readSum_7 rfl (by show _ < 30 + _ + _ + _; omega) (Nat.le_of_ble_eq_true rfl) rfl o_M_isSign l_M_243 rfl (by first | exact ga G (by decide) rfl | assumption) rfl (c_M_isSignW G hJP ?_) <;> try dsimp only [psh]) <;> try ((first | (with_reducible refine T_if_neN (tgt := 22) (pc1 := 13) (pc := 10) k_M_readSum_10 (by decide) (by decide) (by omega) (fun hc => ?_) (fun hc => ?_) <;> first | (exfalso; omega) | skip) | refine T_if_ne_t (tgt := 22) (pc := 10) k_M_readSum_10 rfl (by decide) ?_ | refine T_if_ne_f (tgt := 22) (pc1 := 13) (pc := 10) k_M_readSum_10 rfl rfl (by decide) ?_ | refine T_if_ne (tgt := 22) (pc1 := 13) (pc := 10) k_M_readSum_10 rfl rfl (fun hc => ?_) (fun hc => ?_))))))
      | ((first | refine T_aload_n (pc1 := 14) (pc := 13) k_M_readSum_13 rfl rfl ?_ | refine T_aload_nN (pc1 := 14) (pc := 13) k_M_readSum_13 rfl rfl ?_) <;> try (refine T_bipush (v := (nI 45)) (pc1 := 16) (pc := 14) k_M_readSum_14 rfl (by decide) ?_ <;> try ((refine T_cV (As := [_]) (d1 := 1) (pc1 := 19) (pc := 16) k_M_readSum_16 rfl (by show _ < 30 + _ + _ + _; omega) (Nat.le_of_ble_eq_true rfl) rfl o_M_isSign l_M_243 rfl (by first | exact ga G (by decide) rfl | assumption) rfl (c_M_isSignW G hJP ?_) <;> try dsimp only [psh]) <;> try ((first | (with_reducible refine T_if_eqN (tgt := 61) (pc1 := 22) (pc := 19) k_M_readSum_19 (by decide) (by decide) (by omega) (fun hc => ?_) (fun hc => ?_) <;> first | (exfalso; omega) | skip) | refine T_if_eq_t (tgt := 61) (pc := 19) k_M_readSum_19 rfl (by decide) ?_ | refine T_if_eq_f (tgt := 61) (pc1 := 22) (pc := 19) k_M_readSum_19 rfl rfl (by decide) ?_ | refine T_if_eq (tgt := 61) (pc1 := 22) (pc := 19) k_M_readSum_19 rfl rfl (fun hc => ?_) (fun hc => ?_))))))
      | ((first | refine T_aload_n (pc1 := 23) (pc := 22) k_M_readSum_22 rfl rfl ?_ | refine T_aload_nN (pc1 := 23) (pc := 22) k_M_readSum_22 rfl rfl ?_) <;> try (refine T_getR (pc1 := 26) (pc := 23) k_M_readSum_23 rfl f_M_28 rfl (by first | exact ga G (by decide) rfl | assumption) (by first | exact gr G (by decide) rfl | assumption) ?_ <;> try ((first | refine T_aload_n (pc1 := 27) (pc := 26) k_M_readSum_26 rfl rfl ?_ | refine T_aload_nN (pc1 := 27) (pc := 26) k_M_readSum_26 rfl rfl ?_) <;> try (refine T_getV (pc1 := 30) (pc := 27) k_M_readSum_27 rfl f_M_213 rfl (by first | exact ga G (by decide) rfl | assumption) (by first | assumption | (simp (disch := omega) only [pI_eq, pI_row, pI_col, va_up_self, va_up_ne, ne_eq, not_false_eq_true] <;> rfl) | rfl) ?_ <;> try ((first | refine T_ialdN (pc1 := 31) (pc := 30) k_M_readSum_30 rfl (by first | exact ga G (by decide) rfl | assumption) (by omega) (by omega) (by first | assumption | (simp (disch := omega) only [pI_eq, pI_row, pI_col, va_up_self, va_up_ne, ne_eq, not_false_eq_true] <;> rfl) | rfl) ?_ | refine T_iald (pc1 := 31) (pc := 30) k_M_readSum_30 rfl (by first | exact ga G (by decide) rfl | assumption) (by assumption) ?_) <;> try (refine T_bipush (v := (nI 43)) (pc1 := 33) (pc := 31) k_M_readSum_31 rfl (by decide) ?_ <;> try ((first | (with_reducible refine T_icmp_neN (tgt := 41) (pc1 := 36) (pc := 33) k_M_readSum_33 (by decide) (by decide) (by omega) (by omega) (fun hc => ?_) (fun hc => ?_) <;> first | (exfalso; omega) | skip) | refine T_icmp_ne_t (tgt := 41) (pc := 33) k_M_readSum_33 rfl (by decide) ?_ | refine T_icmp_ne_f (tgt := 41) (pc1 := 36) (pc := 33) k_M_readSum_33 rfl rfl (by decide) ?_ | refine T_icmp_ne (tgt := 41) (pc1 := 36) (pc := 33) k_M_readSum_33 rfl rfl (fun hc => ?_) (fun hc => ?_)))))))))
      | (refine T_bipush (v := (-25)) (pc1 := 38) (pc := 36) k_M_readSum_36 rfl (by decide) ?_ <;> try (refine T_goto (tgt := 43) (pc := 38) k_M_readSum_38 rfl ?_))
      | (refine T_bipush (v := (-26)) (pc1 := 43) (pc := 41) k_M_readSum_41 rfl (by decide) ?_)
      | (refine T_istore_n (pc1 := 44) (pc := 43) k_M_readSum_43 rfl (Nat.le_of_ble_eq_true rfl) ?_ <;> try ((first | refine T_aload_n (pc1 := 45) (pc := 44) k_M_readSum_44 rfl rfl ?_ | refine T_aload_nN (pc1 := 45) (pc := 44) k_M_readSum_44 rfl rfl ?_) <;> try (refine T_iconst (v := (nI 1)) (pc1 := 46) (pc := 45) k_M_readSum_45 rfl (by decide) ?_)))
      | ((first | refine T_aload_n (pc1 := 50) (pc := 49) k_M_readSum_49 rfl rfl ?_ | refine T_aload_nN (pc1 := 50) (pc := 49) k_M_readSum_49 rfl rfl ?_))
      | ((first | refine T_aload_n (pc1 := 54) (pc := 53) k_M_readSum_53 rfl rfl ?_ | refine T_aload_nN (pc1 := 54) (pc := 53) k_M_readSum_53 rfl rfl ?_) <;> try (refine T_iload_n (pc1 := 55) (pc := 54) k_M_readSum_54 rfl rfl ?_))
      | (refine T_goto (tgt := 4) (pc := 58) k_M_readSum_58 rfl ?_)
      | (refine T_retV (pc := 61) k_M_readSum_61 rfl ?_)
      | refine T_bipush (v := (nI 43)) (pc1 := 7) (pc := 5) k_M_readSum_5 rfl (by decide) ?_
      | (refine T_cV (As := [_]) (d1 := 1) (pc1 := 10) (pc := 7) k_M_readSum_7 rfl (by show _ < 30 + _ + _ + _; omega) (Nat.le_of_ble_eq_true rfl) rfl o_M_isSign l_M_243 rfl (by first | exact ga G (by decide) rfl | assumption) rfl (c_M_isSignW G hJP ?_) <;> try dsimp only [psh])
      | (with_reducible refine T_if_neN (tgt := 22) (pc1 := 13) (pc := 10) k_M_readSum_10 (by decide) (by decide) (by omega) (fun hc => ?_) (fun hc => ?_) <;> first | (exfalso; omega) | skip)
      | refine T_if_ne_t (tgt := 22) (pc := 10) k_M_readSum_10 rfl (by decide) ?_
      | refine T_if_ne_f (tgt := 22) (pc1 := 13) (pc := 10) k_M_readSum_10 rfl rfl (by decide) ?_
      | refine T_if_ne (tgt := 22) (pc1 := 13) (pc := 10) k_M_readSum_10 rfl rfl (fun hc => ?_) (fun hc => ?_)
      | refine T_bipush (v := (nI 45)) (pc1 := 16) (pc := 14) k_M_readSum_14 rfl (by decide) ?_
      | (refine T_cV (As := [_]) (d1 := 1) (pc1 := 19) (pc := 16) k_M_readSum_16 rfl (by show _ < 30 + _ + _ + _; omega) (Nat.le_of_ble_eq_true rfl) rfl o_M_isSign l_M_243 rfl (by first | exact ga G (by decide) rfl | assumption) rfl (c_M_isSignW G hJP ?_) <;> try dsimp only [psh])
      | (with_reducible refine T_if_eqN (tgt := 61) (pc1 := 22) (pc := 19) k_M_readSum_19 (by decide) (by decide) (by omega) (fun hc => ?_) (fun hc => ?_) <;> first | (exfalso; omega) | skip)
      | refine T_if_eq_t (tgt := 61) (pc := 19) k_M_readSum_19 rfl (by decide) ?_
      | refine T_if_eq_f (tgt := 61) (pc1 := 22) (pc := 19) k_M_readSum_19 rfl rfl (by decide) ?_
      | refine T_if_eq (tgt := 61) (pc1 := 22) (pc := 19) k_M_readSum_19 rfl rfl (fun hc => ?_) (fun hc => ?_)
      | refine T_getR (pc1 := 26) (pc := 23) k_M_readSum_23 rfl f_M_28 rfl (by first | exact ga G (by decide) rfl | assumption) (by first | exact gr G (by decide) rfl | assumption) ?_
      | refine T_aload_n (pc1 := 27) (pc := 26) k_M_readSum_26 rfl rfl ?_
      | refine T_aload_nN (pc1 := 27) (pc := 26) k_M_readSum_26 rfl rfl ?_
      | refine T_getV (pc1 := 30) (pc := 27) k_M_readSum_27 rfl f_M_213 rfl (by first | exact ga G (by decide) rfl | assumption) (by first | assumption | (simp (disch := omega) only [pI_eq, pI_row, pI_col, va_up_self, va_up_ne, ne_eq, not_false_eq_true] <;> rfl) | rfl) ?_
      | refine T_ialdN (pc1 := 31) (pc := 30) k_M_readSum_30 rfl (by first | exact ga G (by decide) rfl | assumption) (by omega) (by omega) (by first | assumption | (simp (disch := omega) only [pI_eq, pI_row, pI_col, va_up_self, va_up_ne, ne_eq, not_false_eq_true] <;> rfl) | rfl) ?_
      | refine T_iald (pc1 := 31) (pc := 30) k_M_readSum_30 rfl (by first | exact ga G (by decide) rfl | assumption) (by assumption) ?_
      | refine T_bipush (v := (nI 43)) (pc1 := 33) (pc := 31) k_M_readSum_31 rfl (by decide) ?_
      | (with_reducible refine T_icmp_neN (tgt := 41) (pc1 := 36) (pc := 33) k_M_readSum_33 (by decide) (by decide) (by omega) (by omega) (fun hc => ?_) (fun hc => ?_) <;> first | (exfalso; omega) | skip)
      | refine T_icmp_ne_t (tgt := 41) (pc := 33) k_M_readSum_33 rfl (by decide) ?_
      | refine T_icmp_ne_f (tgt := 41) (pc1 := 36) (pc := 33) k_M_readSum_33 rfl rfl (by decide) ?_
      | refine T_icmp_ne (tgt := 41) (pc1 := 36) (pc := 33) k_M_readSum_33 rfl rfl (fun hc => ?_) (fun hc => ?_)
      | refine T_goto (tgt := 43) (pc := 38) k_M_readSum_38 rfl ?_
      | refine T_aload_n (pc1 := 45) (pc := 44) k_M_readSum_44 rfl rfl ?_
      | refine T_aload_nN (pc1 := 45) (pc := 44) k_M_readSum_44 rfl rfl ?_
      | refine T_iconst (v := (nI 1)) (pc1 := 46) (pc := 45) k_M_readSum_45 rfl (by decide) ?_
      | refine T_iload_n (pc1 := 55) (pc := 54) k_M_readSum_54 rfl rfl ?_)
    exact k1 J rfl hJ hJP
  have loop : ∀ q, q < f → ∀ o1, ∀ (p : PS) (J : IM), wfP T z p → 7 * (z - pS p) + 6 < q → okI (pC p) (pM p) (pV p) (nnOf key) → 1 ≤ dp (pC p) (pM p) → pM p ≤ pS p → PMo T z key no op p J → FrM I J → prs T z key q 13 no op p = r → Rl (dM 3 no op) M_M_readSum 4 [some (.ref 101), o1] [] g J K := by
    intro q
    induction q with
    | zero => intro hq o1 p J hw hf; exfalso; omega
    | succ q ih =>
      intro hq o1 p J hw hf hI hd hM hP hFr hr
      have w1 := hw.1
      have w2 := hw.2.1
      rw [prs, if_neg (by decide), if_neg (by decide)] at hr
      obtain ⟨n1, n2⟩ := nx_wf okt w2
      have n3 := n1.1
      have n4 := n1.2.1
      obtain ⟨h1, h2, h3, h4, h5, h6, h7, h8, h9, h10, h11, h12⟩ := id hP
      have none_ : sgOf T 3 p = none → Rl (dM 3 no op) M_M_readSum 61 [some (.ref 101), o1] [] g J K := by
        intro hs
        rw [hs] at hr
        dsimp only at hr
        subst hr
        repeat' (first
          | (refine T_retV (pc := 61) k_M_readSum_61 rfl ?_))
        exact k0 J rfl hFr hP
      have some_ : ∀ c : Int32, sgOf T 3 p = some c → ∀ J1 : IM, FrM J J1 → PMo T z key no op (nx T z p) J1 → Rl (dM 3 no op) M_M_readSum 49 [some (.ref 101), some (.int c)] [] g J1 K := by
        intro c hs J1 hJ1 hJ1P
        rw [hs] at hr
        dsimp only at hr
        have w4 := hw.2.2.1 (by rw [(sgOf_3 hs).1]; decide)
        obtain ⟨qa, qb⟩ := sgC_op (sgOf_3 hs).2
        have nI0 : okI (pC (nx T z p)) (pM (nx T z p)) (pV (nx T z p)) (nnOf key) := hI
        have nM : pM (nx T z p) ≤ pS (nx T z p) := by show pM p ≤ pS (nx T z p); omega
        have nf : 7 * (z - pS (nx T z p)) + rkm 4 < q := by rw [rkm_le (by decide)]; omega
        have h1 := prs_ok okt hk q 4 no op (nx T z p) (Or.inl (by decide)) n1 nf nI0 (by omega)
        first | refine T_aload_n (pc1 := 50) (pc := 49) k_M_readSum_49 rfl rfl ?_ | refine T_aload_nN (pc1 := 50) (pc := 49) k_M_readSum_49 rfl rfl ?_
        refine T_cV (As := []) (d1 := dM 4 no op) (pc1 := 53) (pc := 50) k_M_readSum_50 rfl (by show 30 + _ + _ + _ < 30 + _ + _ + _; omega) (Nat.le_of_ble_eq_true rfl) rfl o_M_readTerm l_M_274 rfl (ga G (by decide) rfl) rfl (IH q (by omega) no op (nx T z p) J1 _ hno hop n1 nf nI0 nM hJ1P (fun J2 hb hJ2 hJ2P => ?_) (fun J2 hb hJ2 hJ2P => ?_)) <;> try dsimp only [psh]
        · have e9 : 13 - 9 = 4 := rfl
          rw [e9, hb, if_neg (by decide), if_neg (by decide)] at hr
          obtain ⟨a1, a2, a3⟩ := h1
          obtain ⟨b1, b2, b3, b4, b5⟩ := a3 hb
          have b1 := b1 (by decide)
          rw [if_pos (by decide)] at b5
          have b5 : dp (pC (prs T z key q 4 no op (nx T z p)).2) (pM (prs T z key q 4 no op (nx T z p)).2) = dp (pC p) (pM p) + 1 := b5
          have b3 : pM (prs T z key q 4 no op (nx T z p)).2 + pS (nx T z p) ≤ pM p + pS (prs T z key q 4 no op (nx T z p)).2 := b3
          generalize (prs T z key q 4 no op (nx T z p)).2 = p1 at *
          have a5 := a1.1
          have a6 := a1.2.1
          obtain ⟨o1, o2⟩ := okI_two b4 qa qb (by omega)
          repeat' (first
            | ((first | refine T_aload_n (pc1 := 54) (pc := 53) k_M_readSum_53 rfl rfl ?_ | refine T_aload_nN (pc1 := 54) (pc := 53) k_M_readSum_53 rfl rfl ?_) <;> try (refine T_iload_n (pc1 := 55) (pc := 54) k_M_readSum_54 rfl rfl ?_ <;> try ((refine T_cV (As := [_]) (d1 := 1) (pc1 := 58) (pc := 55) k_M_readSum_55 rfl (by show _ < 30 + _ + _ + _; omega) (Nat.le_of_ble_eq_true rfl) rfl o_M_step l_M_256 rfl (by first | exact ga G (by decide) rfl | assumption) rfl (c_M_stepO G hJ2P (by omega) (fun J3 hJ3 hJ3P => ?_)) <;> try dsimp only [psh]) <;> try (refine T_goto (tgt := 4) (pc := 58) k_M_readSum_58 rfl ?_))))
            | refine T_iload_n (pc1 := 55) (pc := 54) k_M_readSum_54 rfl rfl ?_
            | (refine T_cV (As := [_]) (d1 := 1) (pc1 := 58) (pc := 55) k_M_readSum_55 rfl (by show _ < 30 + _ + _ + _; omega) (Nat.le_of_ble_eq_true rfl) rfl o_M_step l_M_256 rfl (by first | exact ga G (by decide) rfl | assumption) rfl (c_M_stepO G hJ2P (by omega) (fun J3 hJ3 hJ3P => ?_)) <;> try dsimp only [psh])
            | refine T_goto (tgt := 4) (pc := 58) k_M_readSum_58 rfl ?_)
          exact ih (by omega) _ (ps1 p1 _) J3 a1 (by show 7 * (z - pS p1) + 6 < q; omega) o1 (by show 1 ≤ dp (va_up (pC p1) (pM p1) _) (pM p1 + 1); rw [o2]; omega) (by show pM p1 + 1 ≤ pS p1; omega) hJ3P (FrM_tr hFr (FrM_tr hJ1 (FrM_tr hJ2 hJ3))) hr
        · have e9 : 13 - 9 = 4 := rfl
          rw [e9, hb, if_pos rfl] at hr
          repeat' (first
            | ((first | refine T_aload_n (pc1 := 54) (pc := 53) k_M_readSum_53 rfl rfl ?_ | refine T_aload_nN (pc1 := 54) (pc := 53) k_M_readSum_53 rfl rfl ?_) <;> try (refine T_iload_n (pc1 := 55) (pc := 54) k_M_readSum_54 rfl rfl ?_ <;> try ((refine T_cV (As := [_]) (d1 := 1) (pc1 := 58) (pc := 55) k_M_readSum_55 rfl (by show _ < 30 + _ + _ + _; omega) (Nat.le_of_ble_eq_true rfl) rfl o_M_step l_M_256 rfl (by first | exact ga G (by decide) rfl | assumption) rfl (c_M_stepW G hJ2P ?_) <;> try dsimp only [psh]) <;> try (refine T_goto (tgt := 4) (pc := 58) k_M_readSum_58 rfl ?_))))
            | refine T_iload_n (pc1 := 55) (pc := 54) k_M_readSum_54 rfl rfl ?_
            | (refine T_cV (As := [_]) (d1 := 1) (pc1 := 58) (pc := 55) k_M_readSum_55 rfl (by show _ < 30 + _ + _ + _; omega) (Nat.le_of_ble_eq_true rfl) rfl o_M_step l_M_256 rfl (by first | exact ga G (by decide) rfl | assumption) rfl (c_M_stepW G hJ2P ?_) <;> try dsimp only [psh])
            | refine T_goto (tgt := 4) (pc := 58) k_M_readSum_58 rfl ?_)
          exact bad _ _ J2 hr.symm (FrM_tr hFr (FrM_tr hJ1 hJ2)) hJ2P
      first | refine T_aload_n (pc1 := 5) (pc := 4) k_M_readSum_4 rfl rfl ?_ | refine T_aload_nN (pc1 := 5) (pc := 4) k_M_readSum_4 rfl rfl ?_
      repeat' (first
        | (refine T_bipush (v := (nI 43)) (pc1 := 7) (pc := 5) k_M_readSum_5 rfl (by decide) ?_ <;> try ((refine T_cV (As := [_]) (d1 := 1) (pc1 := 10) (pc := 7) k_M_readSum_7 rfl (by show _ < 30 + _ + _ + _; omega) (Nat.le_of_ble_eq_true rfl) rfl o_M_isSign l_M_243 rfl (by first | exact ga G (by decide) rfl | assumption) rfl (c_M_isSignO G okt (by decide) hP hw (fun hs43 => ?_) (fun hs43 => ?_)) <;> try dsimp only [psh]) <;> try ((first | (with_reducible refine T_if_neN (tgt := 22) (pc1 := 13) (pc := 10) k_M_readSum_10 (by decide) (by decide) (by omega) (fun hc => ?_) (fun hc => ?_) <;> first | (exfalso; omega) | skip) | refine T_if_ne_t (tgt := 22) (pc := 10) k_M_readSum_10 rfl (by decide) ?_ | refine T_if_ne_f (tgt := 22) (pc1 := 13) (pc := 10) k_M_readSum_10 rfl rfl (by decide) ?_ | refine T_if_ne (tgt := 22) (pc1 := 13) (pc := 10) k_M_readSum_10 rfl rfl (fun hc => ?_) (fun hc => ?_)))))
        | ((first | refine T_aload_n (pc1 := 14) (pc := 13) k_M_readSum_13 rfl rfl ?_ | refine T_aload_nN (pc1 := 14) (pc := 13) k_M_readSum_13 rfl rfl ?_) <;> try (refine T_bipush (v := (nI 45)) (pc1 := 16) (pc := 14) k_M_readSum_14 rfl (by decide) ?_ <;> try ((refine T_cV (As := [_]) (d1 := 1) (pc1 := 19) (pc := 16) k_M_readSum_16 rfl (by show _ < 30 + _ + _ + _; omega) (Nat.le_of_ble_eq_true rfl) rfl o_M_isSign l_M_243 rfl (by first | exact ga G (by decide) rfl | assumption) rfl (c_M_isSignO G okt (by decide) hP hw (fun hs45 => ?_) (fun hs45 => ?_)) <;> try dsimp only [psh]) <;> try ((first | (with_reducible refine T_if_eqN (tgt := 61) (pc1 := 22) (pc := 19) k_M_readSum_19 (by decide) (by decide) (by omega) (fun hc => ?_) (fun hc => ?_) <;> first | (exfalso; omega) | skip) | refine T_if_eq_t (tgt := 61) (pc := 19) k_M_readSum_19 rfl (by decide) ?_ | refine T_if_eq_f (tgt := 61) (pc1 := 22) (pc := 19) k_M_readSum_19 rfl rfl (by decide) ?_ | refine T_if_eq (tgt := 61) (pc1 := 22) (pc := 19) k_M_readSum_19 rfl rfl (fun hc => ?_) (fun hc => ?_))))))
        | (refine T_cV (As := [_]) (d1 := 1) (pc1 := 10) (pc := 7) k_M_readSum_7 rfl (by show _ < 30 + _ + _ + _; omega) (Nat.le_of_ble_eq_true rfl) rfl o_M_isSign l_M_243 rfl (by first | exact ga G (by decide) rfl | assumption) rfl (c_M_isSignO G okt (by decide) hP hw (fun hs43 => ?_) (fun hs43 => ?_)) <;> try dsimp only [psh])
        | (with_reducible refine T_if_neN (tgt := 22) (pc1 := 13) (pc := 10) k_M_readSum_10 (by decide) (by decide) (by omega) (fun hc => ?_) (fun hc => ?_) <;> first | (exfalso; omega) | skip)
        | refine T_if_ne_t (tgt := 22) (pc := 10) k_M_readSum_10 rfl (by decide) ?_
        | refine T_if_ne_f (tgt := 22) (pc1 := 13) (pc := 10) k_M_readSum_10 rfl rfl (by decide) ?_
        | refine T_if_ne (tgt := 22) (pc1 := 13) (pc := 10) k_M_readSum_10 rfl rfl (fun hc => ?_) (fun hc => ?_)
        | refine T_bipush (v := (nI 45)) (pc1 := 16) (pc := 14) k_M_readSum_14 rfl (by decide) ?_
        | (refine T_cV (As := [_]) (d1 := 1) (pc1 := 19) (pc := 16) k_M_readSum_16 rfl (by show _ < 30 + _ + _ + _; omega) (Nat.le_of_ble_eq_true rfl) rfl o_M_isSign l_M_243 rfl (by first | exact ga G (by decide) rfl | assumption) rfl (c_M_isSignO G okt (by decide) hP hw (fun hs45 => ?_) (fun hs45 => ?_)) <;> try dsimp only [psh])
        | (with_reducible refine T_if_eqN (tgt := 61) (pc1 := 22) (pc := 19) k_M_readSum_19 (by decide) (by decide) (by omega) (fun hc => ?_) (fun hc => ?_) <;> first | (exfalso; omega) | skip)
        | refine T_if_eq_t (tgt := 61) (pc := 19) k_M_readSum_19 rfl (by decide) ?_
        | refine T_if_eq_f (tgt := 61) (pc1 := 22) (pc := 19) k_M_readSum_19 rfl rfl (by decide) ?_
        | refine T_if_eq (tgt := 61) (pc1 := 22) (pc := 19) k_M_readSum_19 rfl rfl (fun hc => ?_) (fun hc => ?_))
      · have w4 := hw.2.2.1 (by rw [(sgI_3 hs43).1]; decide)
        have e : J 108 (pS p) = nI 43 := by rw [h1]; exact (sgI_3 hs43).2
        have hs : sgOf T 3 p = some (-25) := by
          unfold sgOf
          rw [if_pos (sgI_3 hs43).1, (sgI_3 hs43).2]
          rfl
        repeat' (first
          | ((first | refine T_aload_n (pc1 := 23) (pc := 22) k_M_readSum_22 rfl rfl ?_ | refine T_aload_nN (pc1 := 23) (pc := 22) k_M_readSum_22 rfl rfl ?_) <;> try (refine T_getR (pc1 := 26) (pc := 23) k_M_readSum_23 rfl f_M_28 rfl (by first | exact ga G (by decide) rfl | assumption) (by first | exact gr G (by decide) rfl | assumption) ?_ <;> try ((first | refine T_aload_n (pc1 := 27) (pc := 26) k_M_readSum_26 rfl rfl ?_ | refine T_aload_nN (pc1 := 27) (pc := 26) k_M_readSum_26 rfl rfl ?_) <;> try (refine T_getV (pc1 := 30) (pc := 27) k_M_readSum_27 rfl f_M_213 rfl (by first | exact ga G (by decide) rfl | assumption) (by first | assumption | (simp (disch := omega) only [pI_eq, pI_row, pI_col, va_up_self, va_up_ne, ne_eq, not_false_eq_true] <;> rfl) | rfl) ?_ <;> try ((first | refine T_ialdN (pc1 := 31) (pc := 30) k_M_readSum_30 rfl (by first | exact ga G (by decide) rfl | assumption) (by omega) (by omega) (by first | assumption | (simp (disch := omega) only [pI_eq, pI_row, pI_col, va_up_self, va_up_ne, ne_eq, not_false_eq_true] <;> rfl) | rfl) ?_ | refine T_iald (pc1 := 31) (pc := 30) k_M_readSum_30 rfl (by first | exact ga G (by decide) rfl | assumption) (by assumption) ?_) <;> try (refine T_bipush (v := (nI 43)) (pc1 := 33) (pc := 31) k_M_readSum_31 rfl (by decide) ?_ <;> try ((first | (with_reducible refine T_icmp_neN (tgt := 41) (pc1 := 36) (pc := 33) k_M_readSum_33 (by decide) (by decide) (by omega) (by omega) (fun hc => ?_) (fun hc => ?_) <;> first | (exfalso; omega) | skip) | refine T_icmp_ne_t (tgt := 41) (pc := 33) k_M_readSum_33 rfl (by decide) ?_ | refine T_icmp_ne_f (tgt := 41) (pc1 := 36) (pc := 33) k_M_readSum_33 rfl rfl (by decide) ?_ | refine T_icmp_ne (tgt := 41) (pc1 := 36) (pc := 33) k_M_readSum_33 rfl rfl (fun hc => ?_) (fun hc => ?_)))))))))
          | (refine T_bipush (v := (-25)) (pc1 := 38) (pc := 36) k_M_readSum_36 rfl (by decide) ?_ <;> try (refine T_goto (tgt := 43) (pc := 38) k_M_readSum_38 rfl ?_))
          | (refine T_bipush (v := (-26)) (pc1 := 43) (pc := 41) k_M_readSum_41 rfl (by decide) ?_)
          | (refine T_istore_n (pc1 := 44) (pc := 43) k_M_readSum_43 rfl (Nat.le_of_ble_eq_true rfl) ?_ <;> try ((first | refine T_aload_n (pc1 := 45) (pc := 44) k_M_readSum_44 rfl rfl ?_ | refine T_aload_nN (pc1 := 45) (pc := 44) k_M_readSum_44 rfl rfl ?_) <;> try (refine T_iconst (v := (nI 1)) (pc1 := 46) (pc := 45) k_M_readSum_45 rfl (by decide) ?_ <;> try ((refine T_cV (As := [_]) (d1 := 4) (pc1 := 49) (pc := 46) k_M_readSum_46 rfl (by show _ < 30 + _ + _ + _; omega) (Nat.le_of_ble_eq_true rfl) rfl o_M_must l_M_249 rfl (by first | exact ga G (by decide) rfl | assumption) rfl (c_M_must1 G okt hP hw (fun J1 hJ1 hJ1P => ?_)) <;> try dsimp only [psh])))))
          | refine T_getR (pc1 := 26) (pc := 23) k_M_readSum_23 rfl f_M_28 rfl (by first | exact ga G (by decide) rfl | assumption) (by first | exact gr G (by decide) rfl | assumption) ?_
          | refine T_aload_n (pc1 := 27) (pc := 26) k_M_readSum_26 rfl rfl ?_
          | refine T_aload_nN (pc1 := 27) (pc := 26) k_M_readSum_26 rfl rfl ?_
          | refine T_getV (pc1 := 30) (pc := 27) k_M_readSum_27 rfl f_M_213 rfl (by first | exact ga G (by decide) rfl | assumption) (by first | assumption | (simp (disch := omega) only [pI_eq, pI_row, pI_col, va_up_self, va_up_ne, ne_eq, not_false_eq_true] <;> rfl) | rfl) ?_
          | refine T_ialdN (pc1 := 31) (pc := 30) k_M_readSum_30 rfl (by first | exact ga G (by decide) rfl | assumption) (by omega) (by omega) (by first | assumption | (simp (disch := omega) only [pI_eq, pI_row, pI_col, va_up_self, va_up_ne, ne_eq, not_false_eq_true] <;> rfl) | rfl) ?_
          | refine T_iald (pc1 := 31) (pc := 30) k_M_readSum_30 rfl (by first | exact ga G (by decide) rfl | assumption) (by assumption) ?_
          | refine T_bipush (v := (nI 43)) (pc1 := 33) (pc := 31) k_M_readSum_31 rfl (by decide) ?_
          | (with_reducible refine T_icmp_neN (tgt := 41) (pc1 := 36) (pc := 33) k_M_readSum_33 (by decide) (by decide) (by omega) (by omega) (fun hc => ?_) (fun hc => ?_) <;> first | (exfalso; omega) | skip)
          | refine T_icmp_ne_t (tgt := 41) (pc := 33) k_M_readSum_33 rfl (by decide) ?_
          | refine T_icmp_ne_f (tgt := 41) (pc1 := 36) (pc := 33) k_M_readSum_33 rfl rfl (by decide) ?_
          | refine T_icmp_ne (tgt := 41) (pc1 := 36) (pc := 33) k_M_readSum_33 rfl rfl (fun hc => ?_) (fun hc => ?_)
          | refine T_goto (tgt := 43) (pc := 38) k_M_readSum_38 rfl ?_
          | refine T_aload_n (pc1 := 45) (pc := 44) k_M_readSum_44 rfl rfl ?_
          | refine T_aload_nN (pc1 := 45) (pc := 44) k_M_readSum_44 rfl rfl ?_
          | refine T_iconst (v := (nI 1)) (pc1 := 46) (pc := 45) k_M_readSum_45 rfl (by decide) ?_
          | (refine T_cV (As := [_]) (d1 := 4) (pc1 := 49) (pc := 46) k_M_readSum_46 rfl (by show _ < 30 + _ + _ + _; omega) (Nat.le_of_ble_eq_true rfl) rfl o_M_must l_M_249 rfl (by first | exact ga G (by decide) rfl | assumption) rfl (c_M_must1 G okt hP hw (fun J1 hJ1 hJ1P => ?_)) <;> try dsimp only [psh]))
        exact some_ _ hs J1 hJ1 hJ1P
      · have w4 := hw.2.2.1 (by rw [(sgI_3 hs45).1]; decide)
        have e : J 108 (pS p) = nI 45 := by rw [h1]; exact (sgI_3 hs45).2
        have hs : sgOf T 3 p = some (-26) := by
          unfold sgOf
          rw [if_pos (sgI_3 hs45).1, (sgI_3 hs45).2]
          rfl
        repeat' (first
          | ((first | refine T_aload_n (pc1 := 23) (pc := 22) k_M_readSum_22 rfl rfl ?_ | refine T_aload_nN (pc1 := 23) (pc := 22) k_M_readSum_22 rfl rfl ?_) <;> try (refine T_getR (pc1 := 26) (pc := 23) k_M_readSum_23 rfl f_M_28 rfl (by first | exact ga G (by decide) rfl | assumption) (by first | exact gr G (by decide) rfl | assumption) ?_ <;> try ((first | refine T_aload_n (pc1 := 27) (pc := 26) k_M_readSum_26 rfl rfl ?_ | refine T_aload_nN (pc1 := 27) (pc := 26) k_M_readSum_26 rfl rfl ?_) <;> try (refine T_getV (pc1 := 30) (pc := 27) k_M_readSum_27 rfl f_M_213 rfl (by first | exact ga G (by decide) rfl | assumption) (by first | assumption | (simp (disch := omega) only [pI_eq, pI_row, pI_col, va_up_self, va_up_ne, ne_eq, not_false_eq_true] <;> rfl) | rfl) ?_ <;> try ((first | refine T_ialdN (pc1 := 31) (pc := 30) k_M_readSum_30 rfl (by first | exact ga G (by decide) rfl | assumption) (by omega) (by omega) (by first | assumption | (simp (disch := omega) only [pI_eq, pI_row, pI_col, va_up_self, va_up_ne, ne_eq, not_false_eq_true] <;> rfl) | rfl) ?_ | refine T_iald (pc1 := 31) (pc := 30) k_M_readSum_30 rfl (by first | exact ga G (by decide) rfl | assumption) (by assumption) ?_) <;> try (refine T_bipush (v := (nI 43)) (pc1 := 33) (pc := 31) k_M_readSum_31 rfl (by decide) ?_ <;> try ((first | (with_reducible refine T_icmp_neN (tgt := 41) (pc1 := 36) (pc := 33) k_M_readSum_33 (by decide) (by decide) (by omega) (by omega) (fun hc => ?_) (fun hc => ?_) <;> first | (exfalso; omega) | skip) | refine T_icmp_ne_t (tgt := 41) (pc := 33) k_M_readSum_33 rfl (by decide) ?_ | refine T_icmp_ne_f (tgt := 41) (pc1 := 36) (pc := 33) k_M_readSum_33 rfl rfl (by decide) ?_ | refine T_icmp_ne (tgt := 41) (pc1 := 36) (pc := 33) k_M_readSum_33 rfl rfl (fun hc => ?_) (fun hc => ?_)))))))))
          | (refine T_bipush (v := (-25)) (pc1 := 38) (pc := 36) k_M_readSum_36 rfl (by decide) ?_ <;> try (refine T_goto (tgt := 43) (pc := 38) k_M_readSum_38 rfl ?_))
          | (refine T_bipush (v := (-26)) (pc1 := 43) (pc := 41) k_M_readSum_41 rfl (by decide) ?_)
          | (refine T_istore_n (pc1 := 44) (pc := 43) k_M_readSum_43 rfl (Nat.le_of_ble_eq_true rfl) ?_ <;> try ((first | refine T_aload_n (pc1 := 45) (pc := 44) k_M_readSum_44 rfl rfl ?_ | refine T_aload_nN (pc1 := 45) (pc := 44) k_M_readSum_44 rfl rfl ?_) <;> try (refine T_iconst (v := (nI 1)) (pc1 := 46) (pc := 45) k_M_readSum_45 rfl (by decide) ?_ <;> try ((refine T_cV (As := [_]) (d1 := 4) (pc1 := 49) (pc := 46) k_M_readSum_46 rfl (by show _ < 30 + _ + _ + _; omega) (Nat.le_of_ble_eq_true rfl) rfl o_M_must l_M_249 rfl (by first | exact ga G (by decide) rfl | assumption) rfl (c_M_must1 G okt hP hw (fun J1 hJ1 hJ1P => ?_)) <;> try dsimp only [psh])))))
          | refine T_getR (pc1 := 26) (pc := 23) k_M_readSum_23 rfl f_M_28 rfl (by first | exact ga G (by decide) rfl | assumption) (by first | exact gr G (by decide) rfl | assumption) ?_
          | refine T_aload_n (pc1 := 27) (pc := 26) k_M_readSum_26 rfl rfl ?_
          | refine T_aload_nN (pc1 := 27) (pc := 26) k_M_readSum_26 rfl rfl ?_
          | refine T_getV (pc1 := 30) (pc := 27) k_M_readSum_27 rfl f_M_213 rfl (by first | exact ga G (by decide) rfl | assumption) (by first | assumption | (simp (disch := omega) only [pI_eq, pI_row, pI_col, va_up_self, va_up_ne, ne_eq, not_false_eq_true] <;> rfl) | rfl) ?_
          | refine T_ialdN (pc1 := 31) (pc := 30) k_M_readSum_30 rfl (by first | exact ga G (by decide) rfl | assumption) (by omega) (by omega) (by first | assumption | (simp (disch := omega) only [pI_eq, pI_row, pI_col, va_up_self, va_up_ne, ne_eq, not_false_eq_true] <;> rfl) | rfl) ?_
          | refine T_iald (pc1 := 31) (pc := 30) k_M_readSum_30 rfl (by first | exact ga G (by decide) rfl | assumption) (by assumption) ?_
          | refine T_bipush (v := (nI 43)) (pc1 := 33) (pc := 31) k_M_readSum_31 rfl (by decide) ?_
          | (with_reducible refine T_icmp_neN (tgt := 41) (pc1 := 36) (pc := 33) k_M_readSum_33 (by decide) (by decide) (by omega) (by omega) (fun hc => ?_) (fun hc => ?_) <;> first | (exfalso; omega) | skip)
          | refine T_icmp_ne_t (tgt := 41) (pc := 33) k_M_readSum_33 rfl (by decide) ?_
          | refine T_icmp_ne_f (tgt := 41) (pc1 := 36) (pc := 33) k_M_readSum_33 rfl rfl (by decide) ?_
          | refine T_icmp_ne (tgt := 41) (pc1 := 36) (pc := 33) k_M_readSum_33 rfl rfl (fun hc => ?_) (fun hc => ?_)
          | refine T_goto (tgt := 43) (pc := 38) k_M_readSum_38 rfl ?_
          | refine T_aload_n (pc1 := 45) (pc := 44) k_M_readSum_44 rfl rfl ?_
          | refine T_aload_nN (pc1 := 45) (pc := 44) k_M_readSum_44 rfl rfl ?_
          | refine T_iconst (v := (nI 1)) (pc1 := 46) (pc := 45) k_M_readSum_45 rfl (by decide) ?_
          | (refine T_cV (As := [_]) (d1 := 4) (pc1 := 49) (pc := 46) k_M_readSum_46 rfl (by show _ < 30 + _ + _ + _; omega) (Nat.le_of_ble_eq_true rfl) rfl o_M_must l_M_249 rfl (by first | exact ga G (by decide) rfl | assumption) rfl (c_M_must1 G okt hP hw (fun J1 hJ1 hJ1P => ?_)) <;> try dsimp only [psh]))
        exact some_ _ hs J1 hJ1 hJ1P
      · refine none_ (sg_none ?_)
        by_cases c3 : pO p = 3
        · refine Or.inr ?_
          have x43 := (sgI_no hs43).resolve_left (fun q => q c3)
          have x45 := (sgI_no hs45).resolve_left (fun q => q c3)
          show (if T (pS p) = nI 43 then some (-25 : Int32) else if T (pS p) = nI 45 then some (-26 : Int32) else none) = none
          rw [if_neg x43, if_neg x45]
        · exact Or.inl c3
  cases f with
  | zero => exfalso; omega
  | succ f =>
    rw [prs, if_pos (by decide)] at hr
    rw [rkm_le (by decide)] at hf
    have nf : 7 * (z - pS p) + rkm 4 < f := by rw [rkm_le (by decide)]; omega
    have h1 := prs_ok okt hk f 4 no op p (Or.inl (by decide)) hw nf hI (by omega)
    first | refine T_aload_n (pc1 := 1) (pc := 0) k_M_readSum_0 rfl rfl ?_ | refine T_aload_nN (pc1 := 1) (pc := 0) k_M_readSum_0 rfl rfl ?_
    refine T_cV (As := []) (d1 := dM 4 no op) (pc1 := 4) (pc := 1) k_M_readSum_1 rfl (by show 30 + _ + _ + _ < 30 + _ + _ + _; omega) (Nat.le_of_ble_eq_true rfl) rfl o_M_readTerm l_M_274 rfl (ga G (by decide) rfl) rfl (IH f (by omega) no op p I _ hno hop hw nf hI hM hP (fun J2 hb hJ2 hJ2P => ?_) (fun J2 hb hJ2 hJ2P => ?_)) <;> try dsimp only [psh]
    · have e9 : 3 + 1 = 4 := rfl
      rw [e9, hb, if_neg (by decide)] at hr
      obtain ⟨a1, a2, a3⟩ := h1
      obtain ⟨b1, b2, b3, b4, b5⟩ := a3 hb
      have b1 := b1 (by decide)
      rw [if_pos (by decide)] at b5
      have a5 := a1.1
      have a6 := a1.2.1
      exact loop f (by omega) _ _ J2 a1 (by omega) b4 (by omega) (by omega) hJ2P hJ2 hr
    · have e9 : 3 + 1 = 4 := rfl
      rw [e9, hb, if_pos rfl] at hr
      exact bad _ _ J2 hr.symm hJ2 hJ2P
set_option maxHeartbeats 4000000 in
theorem c_M_readTest_of {f : Nat} (G : GeoOK g) (hF : g.1.2.2.category = 1) (okt : okTp T z) (hk : key < 3) (IH : ∀ f', f' < f → RdC g T z key f' 3) : RdC g T z key f 2 := by
  intro no op p I K hno hop hw hf hI hM hP k0 k1
  show Rl (dM 2 no op) M_M_readTest 0 [some (.ref 101), none] [] g I K
  have h96 := okt.1
  generalize hr : prs T z key f 2 no op p = r at k0 k1
  have bad : ∀ o1, ∀ (q : PS) (J : IM), r = (true, q) → FrM I J → PMw T z key q J → Rl (dM 2 no op) M_M_readTest 4 [some (.ref 101), o1] [] g J K := by
    intro o1 q J hrq hJ hJP
    subst hrq
    repeat' (first
      | ((first | refine T_aload_n (pc1 := 5) (pc := 4) k_M_readTest_4 rfl rfl ?_ | refine T_aload_nN (pc1 := 5) (pc := 4) k_M_readTest_4 rfl rfl ?_) <;> try (refine T_bipush (v := (nI 60)) (pc1 := 7) (pc := 5) k_M_readTest_5 rfl (by decide) ?_ <;> try ((refine T_cV (As := [_]) (d1 := 1) (pc1 := 10) (pc := 7) k_M_readTest_7 rfl (by show _ < 30 + _ + _ + _; omega) (Nat.le_of_ble_eq_true rfl) rfl o_M_isSign l_M_243 rfl (by first | exact ga G (by decide) rfl | assumption) rfl (c_M_isSignW G hJP ?_) <;> try dsimp only [psh]) <;> try ((first | (with_reducible refine T_if_neN (tgt := 31) (pc1 := 13) (pc := 10) k_M_readTest_10 (by decide) (by decide) (by omega) (fun hc => ?_) (fun hc => ?_) <;> first | (exfalso; omega) | skip) | refine T_if_ne_t (tgt := 31) (pc := 10) k_M_readTest_10 rfl (by decide) ?_ | refine T_if_ne_f (tgt := 31) (pc1 := 13) (pc := 10) k_M_readTest_10 rfl rfl (by decide) ?_ | refine T_if_ne (tgt := 31) (pc1 := 13) (pc := 10) k_M_readTest_10 rfl rfl (fun hc => ?_) (fun hc => ?_))))))
      | ((first | refine T_aload_n (pc1 := 14) (pc := 13) k_M_readTest_13 rfl rfl ?_ | refine T_aload_nN (pc1 := 14) (pc := 13) k_M_readTest_13 rfl rfl ?_) <;> try (refine T_bipush (v := (nI 61)) (pc1 := 16) (pc := 14) k_M_readTest_14 rfl (by decide) ?_ <;> try ((refine T_cV (As := [_]) (d1 := 1) (pc1 := 19) (pc := 16) k_M_readTest_16 rfl (by show _ < 30 + _ + _ + _; omega) (Nat.le_of_ble_eq_true rfl) rfl o_M_isSign l_M_243 rfl (by first | exact ga G (by decide) rfl | assumption) rfl (c_M_isSignW G hJP ?_) <;> try dsimp only [psh]) <;> try ((first | (with_reducible refine T_if_neN (tgt := 31) (pc1 := 22) (pc := 19) k_M_readTest_19 (by decide) (by decide) (by omega) (fun hc => ?_) (fun hc => ?_) <;> first | (exfalso; omega) | skip) | refine T_if_ne_t (tgt := 31) (pc := 19) k_M_readTest_19 rfl (by decide) ?_ | refine T_if_ne_f (tgt := 31) (pc1 := 22) (pc := 19) k_M_readTest_19 rfl rfl (by decide) ?_ | refine T_if_ne (tgt := 31) (pc1 := 22) (pc := 19) k_M_readTest_19 rfl rfl (fun hc => ?_) (fun hc => ?_))))))
      | ((first | refine T_aload_n (pc1 := 23) (pc := 22) k_M_readTest_22 rfl rfl ?_ | refine T_aload_nN (pc1 := 23) (pc := 22) k_M_readTest_22 rfl rfl ?_) <;> try (refine T_bipush (v := (nI 62)) (pc1 := 25) (pc := 23) k_M_readTest_23 rfl (by decide) ?_ <;> try ((refine T_cV (As := [_]) (d1 := 1) (pc1 := 28) (pc := 25) k_M_readTest_25 rfl (by show _ < 30 + _ + _ + _; omega) (Nat.le_of_ble_eq_true rfl) rfl o_M_isSign l_M_243 rfl (by first | exact ga G (by decide) rfl | assumption) rfl (c_M_isSignW G hJP ?_) <;> try dsimp only [psh]) <;> try ((first | (with_reducible refine T_if_eqN (tgt := 86) (pc1 := 31) (pc := 28) k_M_readTest_28 (by decide) (by decide) (by omega) (fun hc => ?_) (fun hc => ?_) <;> first | (exfalso; omega) | skip) | refine T_if_eq_t (tgt := 86) (pc := 28) k_M_readTest_28 rfl (by decide) ?_ | refine T_if_eq_f (tgt := 86) (pc1 := 31) (pc := 28) k_M_readTest_28 rfl rfl (by decide) ?_ | refine T_if_eq (tgt := 86) (pc1 := 31) (pc := 28) k_M_readTest_28 rfl rfl (fun hc => ?_) (fun hc => ?_))))))
      | ((first | refine T_aload_n (pc1 := 32) (pc := 31) k_M_readTest_31 rfl rfl ?_ | refine T_aload_nN (pc1 := 32) (pc := 31) k_M_readTest_31 rfl rfl ?_) <;> try (refine T_getR (pc1 := 35) (pc := 32) k_M_readTest_32 rfl f_M_28 rfl (by first | exact ga G (by decide) rfl | assumption) (by first | exact gr G (by decide) rfl | assumption) ?_ <;> try ((first | refine T_aload_n (pc1 := 36) (pc := 35) k_M_readTest_35 rfl rfl ?_ | refine T_aload_nN (pc1 := 36) (pc := 35) k_M_readTest_35 rfl rfl ?_) <;> try (refine T_getV (pc1 := 39) (pc := 36) k_M_readTest_36 rfl f_M_213 rfl (by first | exact ga G (by decide) rfl | assumption) (by first | assumption | (simp (disch := omega) only [pI_eq, pI_row, pI_col, va_up_self, va_up_ne, ne_eq, not_false_eq_true] <;> rfl) | rfl) ?_ <;> try ((first | refine T_ialdN (pc1 := 40) (pc := 39) k_M_readTest_39 rfl (by first | exact ga G (by decide) rfl | assumption) (by omega) (by omega) (by first | assumption | (simp (disch := omega) only [pI_eq, pI_row, pI_col, va_up_self, va_up_ne, ne_eq, not_false_eq_true] <;> rfl) | rfl) ?_ | refine T_iald (pc1 := 40) (pc := 39) k_M_readTest_39 rfl (by first | exact ga G (by decide) rfl | assumption) (by assumption) ?_) <;> try (refine T_bipush (v := (nI 60)) (pc1 := 42) (pc := 40) k_M_readTest_40 rfl (by decide) ?_ <;> try ((first | (with_reducible refine T_icmp_neN (tgt := 50) (pc1 := 45) (pc := 42) k_M_readTest_42 (by decide) (by decide) (by omega) (by omega) (fun hc => ?_) (fun hc => ?_) <;> first | (exfalso; omega) | skip) | refine T_icmp_ne_t (tgt := 50) (pc := 42) k_M_readTest_42 rfl (by decide) ?_ | refine T_icmp_ne_f (tgt := 50) (pc1 := 45) (pc := 42) k_M_readTest_42 rfl rfl (by decide) ?_ | refine T_icmp_ne (tgt := 50) (pc1 := 45) (pc := 42) k_M_readTest_42 rfl rfl (fun hc => ?_) (fun hc => ?_)))))))))
      | (refine T_bipush (v := (-22)) (pc1 := 47) (pc := 45) k_M_readTest_45 rfl (by decide) ?_ <;> try (refine T_goto (tgt := 71) (pc := 47) k_M_readTest_47 rfl ?_))
      | ((first | refine T_aload_n (pc1 := 51) (pc := 50) k_M_readTest_50 rfl rfl ?_ | refine T_aload_nN (pc1 := 51) (pc := 50) k_M_readTest_50 rfl rfl ?_) <;> try (refine T_getR (pc1 := 54) (pc := 51) k_M_readTest_51 rfl f_M_28 rfl (by first | exact ga G (by decide) rfl | assumption) (by first | exact gr G (by decide) rfl | assumption) ?_ <;> try ((first | refine T_aload_n (pc1 := 55) (pc := 54) k_M_readTest_54 rfl rfl ?_ | refine T_aload_nN (pc1 := 55) (pc := 54) k_M_readTest_54 rfl rfl ?_) <;> try (refine T_getV (pc1 := 58) (pc := 55) k_M_readTest_55 rfl f_M_213 rfl (by first | exact ga G (by decide) rfl | assumption) (by first | assumption | (simp (disch := omega) only [pI_eq, pI_row, pI_col, va_up_self, va_up_ne, ne_eq, not_false_eq_true] <;> rfl) | rfl) ?_ <;> try ((first | refine T_ialdN (pc1 := 59) (pc := 58) k_M_readTest_58 rfl (by first | exact ga G (by decide) rfl | assumption) (by omega) (by omega) (by first | assumption | (simp (disch := omega) only [pI_eq, pI_row, pI_col, va_up_self, va_up_ne, ne_eq, not_false_eq_true] <;> rfl) | rfl) ?_ | refine T_iald (pc1 := 59) (pc := 58) k_M_readTest_58 rfl (by first | exact ga G (by decide) rfl | assumption) (by assumption) ?_) <;> try (refine T_bipush (v := (nI 61)) (pc1 := 61) (pc := 59) k_M_readTest_59 rfl (by decide) ?_ <;> try ((first | (with_reducible refine T_icmp_neN (tgt := 69) (pc1 := 64) (pc := 61) k_M_readTest_61 (by decide) (by decide) (by omega) (by omega) (fun hc => ?_) (fun hc => ?_) <;> first | (exfalso; omega) | skip) | refine T_icmp_ne_t (tgt := 69) (pc := 61) k_M_readTest_61 rfl (by decide) ?_ | refine T_icmp_ne_f (tgt := 69) (pc1 := 64) (pc := 61) k_M_readTest_61 rfl rfl (by decide) ?_ | refine T_icmp_ne (tgt := 69) (pc1 := 64) (pc := 61) k_M_readTest_61 rfl rfl (fun hc => ?_) (fun hc => ?_)))))))))
      | (refine T_bipush (v := (-23)) (pc1 := 66) (pc := 64) k_M_readTest_64 rfl (by decide) ?_ <;> try (refine T_goto (tgt := 71) (pc := 66) k_M_readTest_66 rfl ?_))
      | (refine T_bipush (v := (-24)) (pc1 := 71) (pc := 69) k_M_readTest_69 rfl (by decide) ?_)
      | (refine T_istore_n (pc1 := 72) (pc := 71) k_M_readTest_71 rfl (Nat.le_of_ble_eq_true rfl) ?_ <;> try ((first | refine T_aload_n (pc1 := 73) (pc := 72) k_M_readTest_72 rfl rfl ?_ | refine T_aload_nN (pc1 := 73) (pc := 72) k_M_readTest_72 rfl rfl ?_) <;> try (refine T_iconst (v := (nI 1)) (pc1 := 74) (pc := 73) k_M_readTest_73 rfl (by decide) ?_)))
      | ((first | refine T_aload_n (pc1 := 78) (pc := 77) k_M_readTest_77 rfl rfl ?_ | refine T_aload_nN (pc1 := 78) (pc := 77) k_M_readTest_77 rfl rfl ?_))
      | ((first | refine T_aload_n (pc1 := 82) (pc := 81) k_M_readTest_81 rfl rfl ?_ | refine T_aload_nN (pc1 := 82) (pc := 81) k_M_readTest_81 rfl rfl ?_) <;> try (refine T_iload_n (pc1 := 83) (pc := 82) k_M_readTest_82 rfl rfl ?_))
      | (refine T_retV (pc := 86) k_M_readTest_86 rfl ?_)
      | refine T_bipush (v := (nI 60)) (pc1 := 7) (pc := 5) k_M_readTest_5 rfl (by decide) ?_
      | (refine T_cV (As := [_]) (d1 := 1) (pc1 := 10) (pc := 7) k_M_readTest_7 rfl (by show _ < 30 + _ + _ + _; omega) (Nat.le_of_ble_eq_true rfl) rfl o_M_isSign l_M_243 rfl (by first | exact ga G (by decide) rfl | assumption) rfl (c_M_isSignW G hJP ?_) <;> try dsimp only [psh])
      | (with_reducible refine T_if_neN (tgt := 31) (pc1 := 13) (pc := 10) k_M_readTest_10 (by decide) (by decide) (by omega) (fun hc => ?_) (fun hc => ?_) <;> first | (exfalso; omega) | skip)
      | refine T_if_ne_t (tgt := 31) (pc := 10) k_M_readTest_10 rfl (by decide) ?_
      | refine T_if_ne_f (tgt := 31) (pc1 := 13) (pc := 10) k_M_readTest_10 rfl rfl (by decide) ?_
      | refine T_if_ne (tgt := 31) (pc1 := 13) (pc := 10) k_M_readTest_10 rfl rfl (fun hc => ?_) (fun hc => ?_)
      | refine T_bipush (v := (nI 61)) (pc1 := 16) (pc := 14) k_M_readTest_14 rfl (by decide) ?_
      | (refine T_cV (As := [_]) (d1 := 1) (pc1 := 19) (pc := 16) k_M_readTest_16 rfl (by show _ < 30 + _ + _ + _; omega) (Nat.le_of_ble_eq_true rfl) rfl o_M_isSign l_M_243 rfl (by first | exact ga G (by decide) rfl | assumption) rfl (c_M_isSignW G hJP ?_) <;> try dsimp only [psh])
      | (with_reducible refine T_if_neN (tgt := 31) (pc1 := 22) (pc := 19) k_M_readTest_19 (by decide) (by decide) (by omega) (fun hc => ?_) (fun hc => ?_) <;> first | (exfalso; omega) | skip)
      | refine T_if_ne_t (tgt := 31) (pc := 19) k_M_readTest_19 rfl (by decide) ?_
      | refine T_if_ne_f (tgt := 31) (pc1 := 22) (pc := 19) k_M_readTest_19 rfl rfl (by decide) ?_
      | refine T_if_ne (tgt := 31) (pc1 := 22) (pc := 19) k_M_readTest_19 rfl rfl (fun hc => ?_) (fun hc => ?_)
      | refine T_bipush (v := (nI 62)) (pc1 := 25) (pc := 23) k_M_readTest_23 rfl (by decide) ?_
      | (refine T_cV (As := [_]) (d1 := 1) (pc1 := 28) (pc := 25) k_M_readTest_25 rfl (by show _ < 30 + _ + _ + _; omega) (Nat.le_of_ble_eq_true rfl) rfl o_M_isSign l_M_243 rfl (by first | exact ga G (by decide) rfl | assumption) rfl (c_M_isSignW G hJP ?_) <;> try dsimp only [psh])
      | (with_reducible refine T_if_eqN (tgt := 86) (pc1 := 31) (pc := 28) k_M_readTest_28 (by decide) (by decide) (by omega) (fun hc => ?_) (fun hc => ?_) <;> first | (exfalso; omega) | skip)
      | refine T_if_eq_t (tgt := 86) (pc := 28) k_M_readTest_28 rfl (by decide) ?_
      | refine T_if_eq_f (tgt := 86) (pc1 := 31) (pc := 28) k_M_readTest_28 rfl rfl (by decide) ?_
      | refine T_if_eq (tgt := 86) (pc1 := 31) (pc := 28) k_M_readTest_28 rfl rfl (fun hc => ?_) (fun hc => ?_)
      | refine T_getR (pc1 := 35) (pc := 32) k_M_readTest_32 rfl f_M_28 rfl (by first | exact ga G (by decide) rfl | assumption) (by first | exact gr G (by decide) rfl | assumption) ?_
      | refine T_aload_n (pc1 := 36) (pc := 35) k_M_readTest_35 rfl rfl ?_
      | refine T_aload_nN (pc1 := 36) (pc := 35) k_M_readTest_35 rfl rfl ?_
      | refine T_getV (pc1 := 39) (pc := 36) k_M_readTest_36 rfl f_M_213 rfl (by first | exact ga G (by decide) rfl | assumption) (by first | assumption | (simp (disch := omega) only [pI_eq, pI_row, pI_col, va_up_self, va_up_ne, ne_eq, not_false_eq_true] <;> rfl) | rfl) ?_
      | refine T_ialdN (pc1 := 40) (pc := 39) k_M_readTest_39 rfl (by first | exact ga G (by decide) rfl | assumption) (by omega) (by omega) (by first | assumption | (simp (disch := omega) only [pI_eq, pI_row, pI_col, va_up_self, va_up_ne, ne_eq, not_false_eq_true] <;> rfl) | rfl) ?_
      | refine T_iald (pc1 := 40) (pc := 39) k_M_readTest_39 rfl (by first | exact ga G (by decide) rfl | assumption) (by assumption) ?_
      | refine T_bipush (v := (nI 60)) (pc1 := 42) (pc := 40) k_M_readTest_40 rfl (by decide) ?_
      | (with_reducible refine T_icmp_neN (tgt := 50) (pc1 := 45) (pc := 42) k_M_readTest_42 (by decide) (by decide) (by omega) (by omega) (fun hc => ?_) (fun hc => ?_) <;> first | (exfalso; omega) | skip)
      | refine T_icmp_ne_t (tgt := 50) (pc := 42) k_M_readTest_42 rfl (by decide) ?_
      | refine T_icmp_ne_f (tgt := 50) (pc1 := 45) (pc := 42) k_M_readTest_42 rfl rfl (by decide) ?_
      | refine T_icmp_ne (tgt := 50) (pc1 := 45) (pc := 42) k_M_readTest_42 rfl rfl (fun hc => ?_) (fun hc => ?_)
      | refine T_goto (tgt := 71) (pc := 47) k_M_readTest_47 rfl ?_
      | refine T_getR (pc1 := 54) (pc := 51) k_M_readTest_51 rfl f_M_28 rfl (by first | exact ga G (by decide) rfl | assumption) (by first | exact gr G (by decide) rfl | assumption) ?_
      | refine T_aload_n (pc1 := 55) (pc := 54) k_M_readTest_54 rfl rfl ?_
      | refine T_aload_nN (pc1 := 55) (pc := 54) k_M_readTest_54 rfl rfl ?_
      | refine T_getV (pc1 := 58) (pc := 55) k_M_readTest_55 rfl f_M_213 rfl (by first | exact ga G (by decide) rfl | assumption) (by first | assumption | (simp (disch := omega) only [pI_eq, pI_row, pI_col, va_up_self, va_up_ne, ne_eq, not_false_eq_true] <;> rfl) | rfl) ?_
      | refine T_ialdN (pc1 := 59) (pc := 58) k_M_readTest_58 rfl (by first | exact ga G (by decide) rfl | assumption) (by omega) (by omega) (by first | assumption | (simp (disch := omega) only [pI_eq, pI_row, pI_col, va_up_self, va_up_ne, ne_eq, not_false_eq_true] <;> rfl) | rfl) ?_
      | refine T_iald (pc1 := 59) (pc := 58) k_M_readTest_58 rfl (by first | exact ga G (by decide) rfl | assumption) (by assumption) ?_
      | refine T_bipush (v := (nI 61)) (pc1 := 61) (pc := 59) k_M_readTest_59 rfl (by decide) ?_
      | (with_reducible refine T_icmp_neN (tgt := 69) (pc1 := 64) (pc := 61) k_M_readTest_61 (by decide) (by decide) (by omega) (by omega) (fun hc => ?_) (fun hc => ?_) <;> first | (exfalso; omega) | skip)
      | refine T_icmp_ne_t (tgt := 69) (pc := 61) k_M_readTest_61 rfl (by decide) ?_
      | refine T_icmp_ne_f (tgt := 69) (pc1 := 64) (pc := 61) k_M_readTest_61 rfl rfl (by decide) ?_
      | refine T_icmp_ne (tgt := 69) (pc1 := 64) (pc := 61) k_M_readTest_61 rfl rfl (fun hc => ?_) (fun hc => ?_)
      | refine T_goto (tgt := 71) (pc := 66) k_M_readTest_66 rfl ?_
      | refine T_aload_n (pc1 := 73) (pc := 72) k_M_readTest_72 rfl rfl ?_
      | refine T_aload_nN (pc1 := 73) (pc := 72) k_M_readTest_72 rfl rfl ?_
      | refine T_iconst (v := (nI 1)) (pc1 := 74) (pc := 73) k_M_readTest_73 rfl (by decide) ?_
      | refine T_iload_n (pc1 := 83) (pc := 82) k_M_readTest_82 rfl rfl ?_)
    exact k1 J rfl hJ hJP
  have loop : ∀ q, q < f → ∀ o1, ∀ (p : PS) (J : IM), wfP T z p → 7 * (z - pS p) + 6 < q → okI (pC p) (pM p) (pV p) (nnOf key) → 1 ≤ dp (pC p) (pM p) → pM p ≤ pS p → PMo T z key no op p J → FrM I J → prs T z key q 12 no op p = r → Rl (dM 2 no op) M_M_readTest 4 [some (.ref 101), o1] [] g J K := by
    intro q
    induction q with
    | zero => intro hq o1 p J hw hf; exfalso; omega
    | succ q ih =>
      intro hq o1 p J hw hf hI hd hM hP hFr hr
      have w1 := hw.1
      have w2 := hw.2.1
      rw [prs, if_neg (by decide), if_neg (by decide)] at hr
      obtain ⟨n1, n2⟩ := nx_wf okt w2
      have n3 := n1.1
      have n4 := n1.2.1
      obtain ⟨h1, h2, h3, h4, h5, h6, h7, h8, h9, h10, h11, h12⟩ := id hP
      have none_ : sgOf T 2 p = none → Rl (dM 2 no op) M_M_readTest 86 [some (.ref 101), o1] [] g J K := by
        intro hs
        rw [hs] at hr
        dsimp only at hr
        subst hr
        repeat' (first
          | (refine T_retV (pc := 86) k_M_readTest_86 rfl ?_))
        exact k0 J rfl hFr hP
      have some_ : ∀ c : Int32, sgOf T 2 p = some c → ∀ J1 : IM, FrM J J1 → PMo T z key no op (nx T z p) J1 → Rl (dM 2 no op) M_M_readTest 77 [some (.ref 101), some (.int c)] [] g J1 K := by
        intro c hs J1 hJ1 hJ1P
        rw [hs] at hr
        dsimp only at hr
        have w4 := hw.2.2.1 (by rw [(sgOf_3 hs).1]; decide)
        obtain ⟨qa, qb⟩ := sgC_op (sgOf_3 hs).2
        have nI0 : okI (pC (nx T z p)) (pM (nx T z p)) (pV (nx T z p)) (nnOf key) := hI
        have nM : pM (nx T z p) ≤ pS (nx T z p) := by show pM p ≤ pS (nx T z p); omega
        have nf : 7 * (z - pS (nx T z p)) + rkm 3 < q := by rw [rkm_le (by decide)]; omega
        have h1 := prs_ok okt hk q 3 no op (nx T z p) (Or.inl (by decide)) n1 nf nI0 (by omega)
        first | refine T_aload_n (pc1 := 78) (pc := 77) k_M_readTest_77 rfl rfl ?_ | refine T_aload_nN (pc1 := 78) (pc := 77) k_M_readTest_77 rfl rfl ?_
        refine T_cV (As := []) (d1 := dM 3 no op) (pc1 := 81) (pc := 78) k_M_readTest_78 rfl (by show 30 + _ + _ + _ < 30 + _ + _ + _; omega) (Nat.le_of_ble_eq_true rfl) rfl o_M_readSum l_M_277 rfl (ga G (by decide) rfl) rfl (IH q (by omega) no op (nx T z p) J1 _ hno hop n1 nf nI0 nM hJ1P (fun J2 hb hJ2 hJ2P => ?_) (fun J2 hb hJ2 hJ2P => ?_)) <;> try dsimp only [psh]
        · have e9 : 12 - 9 = 3 := rfl
          rw [e9, hb, if_neg (by decide), if_pos rfl] at hr
          obtain ⟨a1, a2, a3⟩ := h1
          obtain ⟨b1, b2, b3, b4, b5⟩ := a3 hb
          have b1 := b1 (by decide)
          rw [if_pos (by decide)] at b5
          have b5 : dp (pC (prs T z key q 3 no op (nx T z p)).2) (pM (prs T z key q 3 no op (nx T z p)).2) = dp (pC p) (pM p) + 1 := b5
          have b3 : pM (prs T z key q 3 no op (nx T z p)).2 + pS (nx T z p) ≤ pM p + pS (prs T z key q 3 no op (nx T z p)).2 := b3
          generalize (prs T z key q 3 no op (nx T z p)).2 = p1 at *
          have a5 := a1.1
          have a6 := a1.2.1
          obtain ⟨o1, o2⟩ := okI_two b4 qa qb (by omega)
          repeat' (first
            | ((first | refine T_aload_n (pc1 := 82) (pc := 81) k_M_readTest_81 rfl rfl ?_ | refine T_aload_nN (pc1 := 82) (pc := 81) k_M_readTest_81 rfl rfl ?_) <;> try (refine T_iload_n (pc1 := 83) (pc := 82) k_M_readTest_82 rfl rfl ?_ <;> try ((refine T_cV (As := [_]) (d1 := 1) (pc1 := 86) (pc := 83) k_M_readTest_83 rfl (by show _ < 30 + _ + _ + _; omega) (Nat.le_of_ble_eq_true rfl) rfl o_M_step l_M_256 rfl (by first | exact ga G (by decide) rfl | assumption) rfl (c_M_stepO G hJ2P (by omega) (fun J3 hJ3 hJ3P => ?_)) <;> try dsimp only [psh]))))
            | (refine T_retV (pc := 86) k_M_readTest_86 rfl ?_)
            | refine T_iload_n (pc1 := 83) (pc := 82) k_M_readTest_82 rfl rfl ?_
            | (refine T_cV (As := [_]) (d1 := 1) (pc1 := 86) (pc := 83) k_M_readTest_83 rfl (by show _ < 30 + _ + _ + _; omega) (Nat.le_of_ble_eq_true rfl) rfl o_M_step l_M_256 rfl (by first | exact ga G (by decide) rfl | assumption) rfl (c_M_stepO G hJ2P (by omega) (fun J3 hJ3 hJ3P => ?_)) <;> try dsimp only [psh]))
          subst hr
          exact k0 J3 rfl (FrM_tr hFr (FrM_tr hJ1 (FrM_tr hJ2 hJ3))) hJ3P
        · have e9 : 12 - 9 = 3 := rfl
          rw [e9, hb, if_pos rfl] at hr
          repeat' (first
            | ((first | refine T_aload_n (pc1 := 82) (pc := 81) k_M_readTest_81 rfl rfl ?_ | refine T_aload_nN (pc1 := 82) (pc := 81) k_M_readTest_81 rfl rfl ?_) <;> try (refine T_iload_n (pc1 := 83) (pc := 82) k_M_readTest_82 rfl rfl ?_ <;> try ((refine T_cV (As := [_]) (d1 := 1) (pc1 := 86) (pc := 83) k_M_readTest_83 rfl (by show _ < 30 + _ + _ + _; omega) (Nat.le_of_ble_eq_true rfl) rfl o_M_step l_M_256 rfl (by first | exact ga G (by decide) rfl | assumption) rfl (c_M_stepW G hJ2P ?_) <;> try dsimp only [psh]))))
            | (refine T_retV (pc := 86) k_M_readTest_86 rfl ?_)
            | refine T_iload_n (pc1 := 83) (pc := 82) k_M_readTest_82 rfl rfl ?_
            | (refine T_cV (As := [_]) (d1 := 1) (pc1 := 86) (pc := 83) k_M_readTest_83 rfl (by show _ < 30 + _ + _ + _; omega) (Nat.le_of_ble_eq_true rfl) rfl o_M_step l_M_256 rfl (by first | exact ga G (by decide) rfl | assumption) rfl (c_M_stepW G hJ2P ?_) <;> try dsimp only [psh]))
          subst hr
          exact k1 J2 rfl (FrM_tr hFr (FrM_tr hJ1 hJ2)) hJ2P
      first | refine T_aload_n (pc1 := 5) (pc := 4) k_M_readTest_4 rfl rfl ?_ | refine T_aload_nN (pc1 := 5) (pc := 4) k_M_readTest_4 rfl rfl ?_
      repeat' (first
        | (refine T_bipush (v := (nI 60)) (pc1 := 7) (pc := 5) k_M_readTest_5 rfl (by decide) ?_ <;> try ((refine T_cV (As := [_]) (d1 := 1) (pc1 := 10) (pc := 7) k_M_readTest_7 rfl (by show _ < 30 + _ + _ + _; omega) (Nat.le_of_ble_eq_true rfl) rfl o_M_isSign l_M_243 rfl (by first | exact ga G (by decide) rfl | assumption) rfl (c_M_isSignO G okt (by decide) hP hw (fun hs60 => ?_) (fun hs60 => ?_)) <;> try dsimp only [psh]) <;> try ((first | (with_reducible refine T_if_neN (tgt := 31) (pc1 := 13) (pc := 10) k_M_readTest_10 (by decide) (by decide) (by omega) (fun hc => ?_) (fun hc => ?_) <;> first | (exfalso; omega) | skip) | refine T_if_ne_t (tgt := 31) (pc := 10) k_M_readTest_10 rfl (by decide) ?_ | refine T_if_ne_f (tgt := 31) (pc1 := 13) (pc := 10) k_M_readTest_10 rfl rfl (by decide) ?_ | refine T_if_ne (tgt := 31) (pc1 := 13) (pc := 10) k_M_readTest_10 rfl rfl (fun hc => ?_) (fun hc => ?_)))))
        | ((first | refine T_aload_n (pc1 := 14) (pc := 13) k_M_readTest_13 rfl rfl ?_ | refine T_aload_nN (pc1 := 14) (pc := 13) k_M_readTest_13 rfl rfl ?_) <;> try (refine T_bipush (v := (nI 61)) (pc1 := 16) (pc := 14) k_M_readTest_14 rfl (by decide) ?_ <;> try ((refine T_cV (As := [_]) (d1 := 1) (pc1 := 19) (pc := 16) k_M_readTest_16 rfl (by show _ < 30 + _ + _ + _; omega) (Nat.le_of_ble_eq_true rfl) rfl o_M_isSign l_M_243 rfl (by first | exact ga G (by decide) rfl | assumption) rfl (c_M_isSignO G okt (by decide) hP hw (fun hs61 => ?_) (fun hs61 => ?_)) <;> try dsimp only [psh]) <;> try ((first | (with_reducible refine T_if_neN (tgt := 31) (pc1 := 22) (pc := 19) k_M_readTest_19 (by decide) (by decide) (by omega) (fun hc => ?_) (fun hc => ?_) <;> first | (exfalso; omega) | skip) | refine T_if_ne_t (tgt := 31) (pc := 19) k_M_readTest_19 rfl (by decide) ?_ | refine T_if_ne_f (tgt := 31) (pc1 := 22) (pc := 19) k_M_readTest_19 rfl rfl (by decide) ?_ | refine T_if_ne (tgt := 31) (pc1 := 22) (pc := 19) k_M_readTest_19 rfl rfl (fun hc => ?_) (fun hc => ?_))))))
        | ((first | refine T_aload_n (pc1 := 23) (pc := 22) k_M_readTest_22 rfl rfl ?_ | refine T_aload_nN (pc1 := 23) (pc := 22) k_M_readTest_22 rfl rfl ?_) <;> try (refine T_bipush (v := (nI 62)) (pc1 := 25) (pc := 23) k_M_readTest_23 rfl (by decide) ?_ <;> try ((refine T_cV (As := [_]) (d1 := 1) (pc1 := 28) (pc := 25) k_M_readTest_25 rfl (by show _ < 30 + _ + _ + _; omega) (Nat.le_of_ble_eq_true rfl) rfl o_M_isSign l_M_243 rfl (by first | exact ga G (by decide) rfl | assumption) rfl (c_M_isSignO G okt (by decide) hP hw (fun hs62 => ?_) (fun hs62 => ?_)) <;> try dsimp only [psh]) <;> try ((first | (with_reducible refine T_if_eqN (tgt := 86) (pc1 := 31) (pc := 28) k_M_readTest_28 (by decide) (by decide) (by omega) (fun hc => ?_) (fun hc => ?_) <;> first | (exfalso; omega) | skip) | refine T_if_eq_t (tgt := 86) (pc := 28) k_M_readTest_28 rfl (by decide) ?_ | refine T_if_eq_f (tgt := 86) (pc1 := 31) (pc := 28) k_M_readTest_28 rfl rfl (by decide) ?_ | refine T_if_eq (tgt := 86) (pc1 := 31) (pc := 28) k_M_readTest_28 rfl rfl (fun hc => ?_) (fun hc => ?_))))))
        | (refine T_cV (As := [_]) (d1 := 1) (pc1 := 10) (pc := 7) k_M_readTest_7 rfl (by show _ < 30 + _ + _ + _; omega) (Nat.le_of_ble_eq_true rfl) rfl o_M_isSign l_M_243 rfl (by first | exact ga G (by decide) rfl | assumption) rfl (c_M_isSignO G okt (by decide) hP hw (fun hs60 => ?_) (fun hs60 => ?_)) <;> try dsimp only [psh])
        | (with_reducible refine T_if_neN (tgt := 31) (pc1 := 13) (pc := 10) k_M_readTest_10 (by decide) (by decide) (by omega) (fun hc => ?_) (fun hc => ?_) <;> first | (exfalso; omega) | skip)
        | refine T_if_ne_t (tgt := 31) (pc := 10) k_M_readTest_10 rfl (by decide) ?_
        | refine T_if_ne_f (tgt := 31) (pc1 := 13) (pc := 10) k_M_readTest_10 rfl rfl (by decide) ?_
        | refine T_if_ne (tgt := 31) (pc1 := 13) (pc := 10) k_M_readTest_10 rfl rfl (fun hc => ?_) (fun hc => ?_)
        | refine T_bipush (v := (nI 61)) (pc1 := 16) (pc := 14) k_M_readTest_14 rfl (by decide) ?_
        | (refine T_cV (As := [_]) (d1 := 1) (pc1 := 19) (pc := 16) k_M_readTest_16 rfl (by show _ < 30 + _ + _ + _; omega) (Nat.le_of_ble_eq_true rfl) rfl o_M_isSign l_M_243 rfl (by first | exact ga G (by decide) rfl | assumption) rfl (c_M_isSignO G okt (by decide) hP hw (fun hs61 => ?_) (fun hs61 => ?_)) <;> try dsimp only [psh])
        | (with_reducible refine T_if_neN (tgt := 31) (pc1 := 22) (pc := 19) k_M_readTest_19 (by decide) (by decide) (by omega) (fun hc => ?_) (fun hc => ?_) <;> first | (exfalso; omega) | skip)
        | refine T_if_ne_t (tgt := 31) (pc := 19) k_M_readTest_19 rfl (by decide) ?_
        | refine T_if_ne_f (tgt := 31) (pc1 := 22) (pc := 19) k_M_readTest_19 rfl rfl (by decide) ?_
        | refine T_if_ne (tgt := 31) (pc1 := 22) (pc := 19) k_M_readTest_19 rfl rfl (fun hc => ?_) (fun hc => ?_)
        | refine T_bipush (v := (nI 62)) (pc1 := 25) (pc := 23) k_M_readTest_23 rfl (by decide) ?_
        | (refine T_cV (As := [_]) (d1 := 1) (pc1 := 28) (pc := 25) k_M_readTest_25 rfl (by show _ < 30 + _ + _ + _; omega) (Nat.le_of_ble_eq_true rfl) rfl o_M_isSign l_M_243 rfl (by first | exact ga G (by decide) rfl | assumption) rfl (c_M_isSignO G okt (by decide) hP hw (fun hs62 => ?_) (fun hs62 => ?_)) <;> try dsimp only [psh])
        | (with_reducible refine T_if_eqN (tgt := 86) (pc1 := 31) (pc := 28) k_M_readTest_28 (by decide) (by decide) (by omega) (fun hc => ?_) (fun hc => ?_) <;> first | (exfalso; omega) | skip)
        | refine T_if_eq_t (tgt := 86) (pc := 28) k_M_readTest_28 rfl (by decide) ?_
        | refine T_if_eq_f (tgt := 86) (pc1 := 31) (pc := 28) k_M_readTest_28 rfl rfl (by decide) ?_
        | refine T_if_eq (tgt := 86) (pc1 := 31) (pc := 28) k_M_readTest_28 rfl rfl (fun hc => ?_) (fun hc => ?_))
      · have w4 := hw.2.2.1 (by rw [(sgI_3 hs60).1]; decide)
        have e : J 108 (pS p) = nI 60 := by rw [h1]; exact (sgI_3 hs60).2
        have hs : sgOf T 2 p = some (-22) := by
          unfold sgOf
          rw [if_pos (sgI_3 hs60).1, (sgI_3 hs60).2]
          rfl
        repeat' (first
          | ((first | refine T_aload_n (pc1 := 32) (pc := 31) k_M_readTest_31 rfl rfl ?_ | refine T_aload_nN (pc1 := 32) (pc := 31) k_M_readTest_31 rfl rfl ?_) <;> try (refine T_getR (pc1 := 35) (pc := 32) k_M_readTest_32 rfl f_M_28 rfl (by first | exact ga G (by decide) rfl | assumption) (by first | exact gr G (by decide) rfl | assumption) ?_ <;> try ((first | refine T_aload_n (pc1 := 36) (pc := 35) k_M_readTest_35 rfl rfl ?_ | refine T_aload_nN (pc1 := 36) (pc := 35) k_M_readTest_35 rfl rfl ?_) <;> try (refine T_getV (pc1 := 39) (pc := 36) k_M_readTest_36 rfl f_M_213 rfl (by first | exact ga G (by decide) rfl | assumption) (by first | assumption | (simp (disch := omega) only [pI_eq, pI_row, pI_col, va_up_self, va_up_ne, ne_eq, not_false_eq_true] <;> rfl) | rfl) ?_ <;> try ((first | refine T_ialdN (pc1 := 40) (pc := 39) k_M_readTest_39 rfl (by first | exact ga G (by decide) rfl | assumption) (by omega) (by omega) (by first | assumption | (simp (disch := omega) only [pI_eq, pI_row, pI_col, va_up_self, va_up_ne, ne_eq, not_false_eq_true] <;> rfl) | rfl) ?_ | refine T_iald (pc1 := 40) (pc := 39) k_M_readTest_39 rfl (by first | exact ga G (by decide) rfl | assumption) (by assumption) ?_) <;> try (refine T_bipush (v := (nI 60)) (pc1 := 42) (pc := 40) k_M_readTest_40 rfl (by decide) ?_ <;> try ((first | (with_reducible refine T_icmp_neN (tgt := 50) (pc1 := 45) (pc := 42) k_M_readTest_42 (by decide) (by decide) (by omega) (by omega) (fun hc => ?_) (fun hc => ?_) <;> first | (exfalso; omega) | skip) | refine T_icmp_ne_t (tgt := 50) (pc := 42) k_M_readTest_42 rfl (by decide) ?_ | refine T_icmp_ne_f (tgt := 50) (pc1 := 45) (pc := 42) k_M_readTest_42 rfl rfl (by decide) ?_ | refine T_icmp_ne (tgt := 50) (pc1 := 45) (pc := 42) k_M_readTest_42 rfl rfl (fun hc => ?_) (fun hc => ?_)))))))))
          | (refine T_bipush (v := (-22)) (pc1 := 47) (pc := 45) k_M_readTest_45 rfl (by decide) ?_ <;> try (refine T_goto (tgt := 71) (pc := 47) k_M_readTest_47 rfl ?_))
          | ((first | refine T_aload_n (pc1 := 51) (pc := 50) k_M_readTest_50 rfl rfl ?_ | refine T_aload_nN (pc1 := 51) (pc := 50) k_M_readTest_50 rfl rfl ?_) <;> try (refine T_getR (pc1 := 54) (pc := 51) k_M_readTest_51 rfl f_M_28 rfl (by first | exact ga G (by decide) rfl | assumption) (by first | exact gr G (by decide) rfl | assumption) ?_ <;> try ((first | refine T_aload_n (pc1 := 55) (pc := 54) k_M_readTest_54 rfl rfl ?_ | refine T_aload_nN (pc1 := 55) (pc := 54) k_M_readTest_54 rfl rfl ?_) <;> try (refine T_getV (pc1 := 58) (pc := 55) k_M_readTest_55 rfl f_M_213 rfl (by first | exact ga G (by decide) rfl | assumption) (by first | assumption | (simp (disch := omega) only [pI_eq, pI_row, pI_col, va_up_self, va_up_ne, ne_eq, not_false_eq_true] <;> rfl) | rfl) ?_ <;> try ((first | refine T_ialdN (pc1 := 59) (pc := 58) k_M_readTest_58 rfl (by first | exact ga G (by decide) rfl | assumption) (by omega) (by omega) (by first | assumption | (simp (disch := omega) only [pI_eq, pI_row, pI_col, va_up_self, va_up_ne, ne_eq, not_false_eq_true] <;> rfl) | rfl) ?_ | refine T_iald (pc1 := 59) (pc := 58) k_M_readTest_58 rfl (by first | exact ga G (by decide) rfl | assumption) (by assumption) ?_) <;> try (refine T_bipush (v := (nI 61)) (pc1 := 61) (pc := 59) k_M_readTest_59 rfl (by decide) ?_ <;> try ((first | (with_reducible refine T_icmp_neN (tgt := 69) (pc1 := 64) (pc := 61) k_M_readTest_61 (by decide) (by decide) (by omega) (by omega) (fun hc => ?_) (fun hc => ?_) <;> first | (exfalso; omega) | skip) | refine T_icmp_ne_t (tgt := 69) (pc := 61) k_M_readTest_61 rfl (by decide) ?_ | refine T_icmp_ne_f (tgt := 69) (pc1 := 64) (pc := 61) k_M_readTest_61 rfl rfl (by decide) ?_ | refine T_icmp_ne (tgt := 69) (pc1 := 64) (pc := 61) k_M_readTest_61 rfl rfl (fun hc => ?_) (fun hc => ?_)))))))))
          | (refine T_bipush (v := (-23)) (pc1 := 66) (pc := 64) k_M_readTest_64 rfl (by decide) ?_ <;> try (refine T_goto (tgt := 71) (pc := 66) k_M_readTest_66 rfl ?_))
          | (refine T_bipush (v := (-24)) (pc1 := 71) (pc := 69) k_M_readTest_69 rfl (by decide) ?_)
          | (refine T_istore_n (pc1 := 72) (pc := 71) k_M_readTest_71 rfl (Nat.le_of_ble_eq_true rfl) ?_ <;> try ((first | refine T_aload_n (pc1 := 73) (pc := 72) k_M_readTest_72 rfl rfl ?_ | refine T_aload_nN (pc1 := 73) (pc := 72) k_M_readTest_72 rfl rfl ?_) <;> try (refine T_iconst (v := (nI 1)) (pc1 := 74) (pc := 73) k_M_readTest_73 rfl (by decide) ?_ <;> try ((refine T_cV (As := [_]) (d1 := 4) (pc1 := 77) (pc := 74) k_M_readTest_74 rfl (by show _ < 30 + _ + _ + _; omega) (Nat.le_of_ble_eq_true rfl) rfl o_M_must l_M_249 rfl (by first | exact ga G (by decide) rfl | assumption) rfl (c_M_must1 G okt hP hw (fun J1 hJ1 hJ1P => ?_)) <;> try dsimp only [psh])))))
          | refine T_getR (pc1 := 35) (pc := 32) k_M_readTest_32 rfl f_M_28 rfl (by first | exact ga G (by decide) rfl | assumption) (by first | exact gr G (by decide) rfl | assumption) ?_
          | refine T_aload_n (pc1 := 36) (pc := 35) k_M_readTest_35 rfl rfl ?_
          | refine T_aload_nN (pc1 := 36) (pc := 35) k_M_readTest_35 rfl rfl ?_
          | refine T_getV (pc1 := 39) (pc := 36) k_M_readTest_36 rfl f_M_213 rfl (by first | exact ga G (by decide) rfl | assumption) (by first | assumption | (simp (disch := omega) only [pI_eq, pI_row, pI_col, va_up_self, va_up_ne, ne_eq, not_false_eq_true] <;> rfl) | rfl) ?_
          | refine T_ialdN (pc1 := 40) (pc := 39) k_M_readTest_39 rfl (by first | exact ga G (by decide) rfl | assumption) (by omega) (by omega) (by first | assumption | (simp (disch := omega) only [pI_eq, pI_row, pI_col, va_up_self, va_up_ne, ne_eq, not_false_eq_true] <;> rfl) | rfl) ?_
          | refine T_iald (pc1 := 40) (pc := 39) k_M_readTest_39 rfl (by first | exact ga G (by decide) rfl | assumption) (by assumption) ?_
          | refine T_bipush (v := (nI 60)) (pc1 := 42) (pc := 40) k_M_readTest_40 rfl (by decide) ?_
          | (with_reducible refine T_icmp_neN (tgt := 50) (pc1 := 45) (pc := 42) k_M_readTest_42 (by decide) (by decide) (by omega) (by omega) (fun hc => ?_) (fun hc => ?_) <;> first | (exfalso; omega) | skip)
          | refine T_icmp_ne_t (tgt := 50) (pc := 42) k_M_readTest_42 rfl (by decide) ?_
          | refine T_icmp_ne_f (tgt := 50) (pc1 := 45) (pc := 42) k_M_readTest_42 rfl rfl (by decide) ?_
          | refine T_icmp_ne (tgt := 50) (pc1 := 45) (pc := 42) k_M_readTest_42 rfl rfl (fun hc => ?_) (fun hc => ?_)
          | refine T_goto (tgt := 71) (pc := 47) k_M_readTest_47 rfl ?_
          | refine T_getR (pc1 := 54) (pc := 51) k_M_readTest_51 rfl f_M_28 rfl (by first | exact ga G (by decide) rfl | assumption) (by first | exact gr G (by decide) rfl | assumption) ?_
          | refine T_aload_n (pc1 := 55) (pc := 54) k_M_readTest_54 rfl rfl ?_
          | refine T_aload_nN (pc1 := 55) (pc := 54) k_M_readTest_54 rfl rfl ?_
          | refine T_getV (pc1 := 58) (pc := 55) k_M_readTest_55 rfl f_M_213 rfl (by first | exact ga G (by decide) rfl | assumption) (by first | assumption | (simp (disch := omega) only [pI_eq, pI_row, pI_col, va_up_self, va_up_ne, ne_eq, not_false_eq_true] <;> rfl) | rfl) ?_
          | refine T_ialdN (pc1 := 59) (pc := 58) k_M_readTest_58 rfl (by first | exact ga G (by decide) rfl | assumption) (by omega) (by omega) (by first | assumption | (simp (disch := omega) only [pI_eq, pI_row, pI_col, va_up_self, va_up_ne, ne_eq, not_false_eq_true] <;> rfl) | rfl) ?_
          | refine T_iald (pc1 := 59) (pc := 58) k_M_readTest_58 rfl (by first | exact ga G (by decide) rfl | assumption) (by assumption) ?_
          | refine T_bipush (v := (nI 61)) (pc1 := 61) (pc := 59) k_M_readTest_59 rfl (by decide) ?_
          | (with_reducible refine T_icmp_neN (tgt := 69) (pc1 := 64) (pc := 61) k_M_readTest_61 (by decide) (by decide) (by omega) (by omega) (fun hc => ?_) (fun hc => ?_) <;> first | (exfalso; omega) | skip)
          | refine T_icmp_ne_t (tgt := 69) (pc := 61) k_M_readTest_61 rfl (by decide) ?_
          | refine T_icmp_ne_f (tgt := 69) (pc1 := 64) (pc := 61) k_M_readTest_61 rfl rfl (by decide) ?_
          | refine T_icmp_ne (tgt := 69) (pc1 := 64) (pc := 61) k_M_readTest_61 rfl rfl (fun hc => ?_) (fun hc => ?_)
          | refine T_goto (tgt := 71) (pc := 66) k_M_readTest_66 rfl ?_
          | refine T_aload_n (pc1 := 73) (pc := 72) k_M_readTest_72 rfl rfl ?_
          | refine T_aload_nN (pc1 := 73) (pc := 72) k_M_readTest_72 rfl rfl ?_
          | refine T_iconst (v := (nI 1)) (pc1 := 74) (pc := 73) k_M_readTest_73 rfl (by decide) ?_
          | (refine T_cV (As := [_]) (d1 := 4) (pc1 := 77) (pc := 74) k_M_readTest_74 rfl (by show _ < 30 + _ + _ + _; omega) (Nat.le_of_ble_eq_true rfl) rfl o_M_must l_M_249 rfl (by first | exact ga G (by decide) rfl | assumption) rfl (c_M_must1 G okt hP hw (fun J1 hJ1 hJ1P => ?_)) <;> try dsimp only [psh]))
        exact some_ _ hs J1 hJ1 hJ1P
      · have w4 := hw.2.2.1 (by rw [(sgI_3 hs61).1]; decide)
        have e : J 108 (pS p) = nI 61 := by rw [h1]; exact (sgI_3 hs61).2
        have hs : sgOf T 2 p = some (-23) := by
          unfold sgOf
          rw [if_pos (sgI_3 hs61).1, (sgI_3 hs61).2]
          rfl
        repeat' (first
          | ((first | refine T_aload_n (pc1 := 32) (pc := 31) k_M_readTest_31 rfl rfl ?_ | refine T_aload_nN (pc1 := 32) (pc := 31) k_M_readTest_31 rfl rfl ?_) <;> try (refine T_getR (pc1 := 35) (pc := 32) k_M_readTest_32 rfl f_M_28 rfl (by first | exact ga G (by decide) rfl | assumption) (by first | exact gr G (by decide) rfl | assumption) ?_ <;> try ((first | refine T_aload_n (pc1 := 36) (pc := 35) k_M_readTest_35 rfl rfl ?_ | refine T_aload_nN (pc1 := 36) (pc := 35) k_M_readTest_35 rfl rfl ?_) <;> try (refine T_getV (pc1 := 39) (pc := 36) k_M_readTest_36 rfl f_M_213 rfl (by first | exact ga G (by decide) rfl | assumption) (by first | assumption | (simp (disch := omega) only [pI_eq, pI_row, pI_col, va_up_self, va_up_ne, ne_eq, not_false_eq_true] <;> rfl) | rfl) ?_ <;> try ((first | refine T_ialdN (pc1 := 40) (pc := 39) k_M_readTest_39 rfl (by first | exact ga G (by decide) rfl | assumption) (by omega) (by omega) (by first | assumption | (simp (disch := omega) only [pI_eq, pI_row, pI_col, va_up_self, va_up_ne, ne_eq, not_false_eq_true] <;> rfl) | rfl) ?_ | refine T_iald (pc1 := 40) (pc := 39) k_M_readTest_39 rfl (by first | exact ga G (by decide) rfl | assumption) (by assumption) ?_) <;> try (refine T_bipush (v := (nI 60)) (pc1 := 42) (pc := 40) k_M_readTest_40 rfl (by decide) ?_ <;> try ((first | (with_reducible refine T_icmp_neN (tgt := 50) (pc1 := 45) (pc := 42) k_M_readTest_42 (by decide) (by decide) (by omega) (by omega) (fun hc => ?_) (fun hc => ?_) <;> first | (exfalso; omega) | skip) | refine T_icmp_ne_t (tgt := 50) (pc := 42) k_M_readTest_42 rfl (by decide) ?_ | refine T_icmp_ne_f (tgt := 50) (pc1 := 45) (pc := 42) k_M_readTest_42 rfl rfl (by decide) ?_ | refine T_icmp_ne (tgt := 50) (pc1 := 45) (pc := 42) k_M_readTest_42 rfl rfl (fun hc => ?_) (fun hc => ?_)))))))))
          | (refine T_bipush (v := (-22)) (pc1 := 47) (pc := 45) k_M_readTest_45 rfl (by decide) ?_ <;> try (refine T_goto (tgt := 71) (pc := 47) k_M_readTest_47 rfl ?_))
          | ((first | refine T_aload_n (pc1 := 51) (pc := 50) k_M_readTest_50 rfl rfl ?_ | refine T_aload_nN (pc1 := 51) (pc := 50) k_M_readTest_50 rfl rfl ?_) <;> try (refine T_getR (pc1 := 54) (pc := 51) k_M_readTest_51 rfl f_M_28 rfl (by first | exact ga G (by decide) rfl | assumption) (by first | exact gr G (by decide) rfl | assumption) ?_ <;> try ((first | refine T_aload_n (pc1 := 55) (pc := 54) k_M_readTest_54 rfl rfl ?_ | refine T_aload_nN (pc1 := 55) (pc := 54) k_M_readTest_54 rfl rfl ?_) <;> try (refine T_getV (pc1 := 58) (pc := 55) k_M_readTest_55 rfl f_M_213 rfl (by first | exact ga G (by decide) rfl | assumption) (by first | assumption | (simp (disch := omega) only [pI_eq, pI_row, pI_col, va_up_self, va_up_ne, ne_eq, not_false_eq_true] <;> rfl) | rfl) ?_ <;> try ((first | refine T_ialdN (pc1 := 59) (pc := 58) k_M_readTest_58 rfl (by first | exact ga G (by decide) rfl | assumption) (by omega) (by omega) (by first | assumption | (simp (disch := omega) only [pI_eq, pI_row, pI_col, va_up_self, va_up_ne, ne_eq, not_false_eq_true] <;> rfl) | rfl) ?_ | refine T_iald (pc1 := 59) (pc := 58) k_M_readTest_58 rfl (by first | exact ga G (by decide) rfl | assumption) (by assumption) ?_) <;> try (refine T_bipush (v := (nI 61)) (pc1 := 61) (pc := 59) k_M_readTest_59 rfl (by decide) ?_ <;> try ((first | (with_reducible refine T_icmp_neN (tgt := 69) (pc1 := 64) (pc := 61) k_M_readTest_61 (by decide) (by decide) (by omega) (by omega) (fun hc => ?_) (fun hc => ?_) <;> first | (exfalso; omega) | skip) | refine T_icmp_ne_t (tgt := 69) (pc := 61) k_M_readTest_61 rfl (by decide) ?_ | refine T_icmp_ne_f (tgt := 69) (pc1 := 64) (pc := 61) k_M_readTest_61 rfl rfl (by decide) ?_ | refine T_icmp_ne (tgt := 69) (pc1 := 64) (pc := 61) k_M_readTest_61 rfl rfl (fun hc => ?_) (fun hc => ?_)))))))))
          | (refine T_bipush (v := (-23)) (pc1 := 66) (pc := 64) k_M_readTest_64 rfl (by decide) ?_ <;> try (refine T_goto (tgt := 71) (pc := 66) k_M_readTest_66 rfl ?_))
          | (refine T_bipush (v := (-24)) (pc1 := 71) (pc := 69) k_M_readTest_69 rfl (by decide) ?_)
          | (refine T_istore_n (pc1 := 72) (pc := 71) k_M_readTest_71 rfl (Nat.le_of_ble_eq_true rfl) ?_ <;> try ((first | refine T_aload_n (pc1 := 73) (pc := 72) k_M_readTest_72 rfl rfl ?_ | refine T_aload_nN (pc1 := 73) (pc := 72) k_M_readTest_72 rfl rfl ?_) <;> try (refine T_iconst (v := (nI 1)) (pc1 := 74) (pc := 73) k_M_readTest_73 rfl (by decide) ?_ <;> try ((refine T_cV (As := [_]) (d1 := 4) (pc1 := 77) (pc := 74) k_M_readTest_74 rfl (by show _ < 30 + _ + _ + _; omega) (Nat.le_of_ble_eq_true rfl) rfl o_M_must l_M_249 rfl (by first | exact ga G (by decide) rfl | assumption) rfl (c_M_must1 G okt hP hw (fun J1 hJ1 hJ1P => ?_)) <;> try dsimp only [psh])))))
          | refine T_getR (pc1 := 35) (pc := 32) k_M_readTest_32 rfl f_M_28 rfl (by first | exact ga G (by decide) rfl | assumption) (by first | exact gr G (by decide) rfl | assumption) ?_
          | refine T_aload_n (pc1 := 36) (pc := 35) k_M_readTest_35 rfl rfl ?_
          | refine T_aload_nN (pc1 := 36) (pc := 35) k_M_readTest_35 rfl rfl ?_
          | refine T_getV (pc1 := 39) (pc := 36) k_M_readTest_36 rfl f_M_213 rfl (by first | exact ga G (by decide) rfl | assumption) (by first | assumption | (simp (disch := omega) only [pI_eq, pI_row, pI_col, va_up_self, va_up_ne, ne_eq, not_false_eq_true] <;> rfl) | rfl) ?_
          | refine T_ialdN (pc1 := 40) (pc := 39) k_M_readTest_39 rfl (by first | exact ga G (by decide) rfl | assumption) (by omega) (by omega) (by first | assumption | (simp (disch := omega) only [pI_eq, pI_row, pI_col, va_up_self, va_up_ne, ne_eq, not_false_eq_true] <;> rfl) | rfl) ?_
          | refine T_iald (pc1 := 40) (pc := 39) k_M_readTest_39 rfl (by first | exact ga G (by decide) rfl | assumption) (by assumption) ?_
          | refine T_bipush (v := (nI 60)) (pc1 := 42) (pc := 40) k_M_readTest_40 rfl (by decide) ?_
          | (with_reducible refine T_icmp_neN (tgt := 50) (pc1 := 45) (pc := 42) k_M_readTest_42 (by decide) (by decide) (by omega) (by omega) (fun hc => ?_) (fun hc => ?_) <;> first | (exfalso; omega) | skip)
          | refine T_icmp_ne_t (tgt := 50) (pc := 42) k_M_readTest_42 rfl (by decide) ?_
          | refine T_icmp_ne_f (tgt := 50) (pc1 := 45) (pc := 42) k_M_readTest_42 rfl rfl (by decide) ?_
          | refine T_icmp_ne (tgt := 50) (pc1 := 45) (pc := 42) k_M_readTest_42 rfl rfl (fun hc => ?_) (fun hc => ?_)
          | refine T_goto (tgt := 71) (pc := 47) k_M_readTest_47 rfl ?_
          | refine T_getR (pc1 := 54) (pc := 51) k_M_readTest_51 rfl f_M_28 rfl (by first | exact ga G (by decide) rfl | assumption) (by first | exact gr G (by decide) rfl | assumption) ?_
          | refine T_aload_n (pc1 := 55) (pc := 54) k_M_readTest_54 rfl rfl ?_
          | refine T_aload_nN (pc1 := 55) (pc := 54) k_M_readTest_54 rfl rfl ?_
          | refine T_getV (pc1 := 58) (pc := 55) k_M_readTest_55 rfl f_M_213 rfl (by first | exact ga G (by decide) rfl | assumption) (by first | assumption | (simp (disch := omega) only [pI_eq, pI_row, pI_col, va_up_self, va_up_ne, ne_eq, not_false_eq_true] <;> rfl) | rfl) ?_
          | refine T_ialdN (pc1 := 59) (pc := 58) k_M_readTest_58 rfl (by first | exact ga G (by decide) rfl | assumption) (by omega) (by omega) (by first | assumption | (simp (disch := omega) only [pI_eq, pI_row, pI_col, va_up_self, va_up_ne, ne_eq, not_false_eq_true] <;> rfl) | rfl) ?_
          | refine T_iald (pc1 := 59) (pc := 58) k_M_readTest_58 rfl (by first | exact ga G (by decide) rfl | assumption) (by assumption) ?_
          | refine T_bipush (v := (nI 61)) (pc1 := 61) (pc := 59) k_M_readTest_59 rfl (by decide) ?_
          | (with_reducible refine T_icmp_neN (tgt := 69) (pc1 := 64) (pc := 61) k_M_readTest_61 (by decide) (by decide) (by omega) (by omega) (fun hc => ?_) (fun hc => ?_) <;> first | (exfalso; omega) | skip)
          | refine T_icmp_ne_t (tgt := 69) (pc := 61) k_M_readTest_61 rfl (by decide) ?_
          | refine T_icmp_ne_f (tgt := 69) (pc1 := 64) (pc := 61) k_M_readTest_61 rfl rfl (by decide) ?_
          | refine T_icmp_ne (tgt := 69) (pc1 := 64) (pc := 61) k_M_readTest_61 rfl rfl (fun hc => ?_) (fun hc => ?_)
          | refine T_goto (tgt := 71) (pc := 66) k_M_readTest_66 rfl ?_
          | refine T_aload_n (pc1 := 73) (pc := 72) k_M_readTest_72 rfl rfl ?_
          | refine T_aload_nN (pc1 := 73) (pc := 72) k_M_readTest_72 rfl rfl ?_
          | refine T_iconst (v := (nI 1)) (pc1 := 74) (pc := 73) k_M_readTest_73 rfl (by decide) ?_
          | (refine T_cV (As := [_]) (d1 := 4) (pc1 := 77) (pc := 74) k_M_readTest_74 rfl (by show _ < 30 + _ + _ + _; omega) (Nat.le_of_ble_eq_true rfl) rfl o_M_must l_M_249 rfl (by first | exact ga G (by decide) rfl | assumption) rfl (c_M_must1 G okt hP hw (fun J1 hJ1 hJ1P => ?_)) <;> try dsimp only [psh]))
        exact some_ _ hs J1 hJ1 hJ1P
      · have w4 := hw.2.2.1 (by rw [(sgI_3 hs62).1]; decide)
        have e : J 108 (pS p) = nI 62 := by rw [h1]; exact (sgI_3 hs62).2
        have hs : sgOf T 2 p = some (-24) := by
          unfold sgOf
          rw [if_pos (sgI_3 hs62).1, (sgI_3 hs62).2]
          rfl
        repeat' (first
          | ((first | refine T_aload_n (pc1 := 32) (pc := 31) k_M_readTest_31 rfl rfl ?_ | refine T_aload_nN (pc1 := 32) (pc := 31) k_M_readTest_31 rfl rfl ?_) <;> try (refine T_getR (pc1 := 35) (pc := 32) k_M_readTest_32 rfl f_M_28 rfl (by first | exact ga G (by decide) rfl | assumption) (by first | exact gr G (by decide) rfl | assumption) ?_ <;> try ((first | refine T_aload_n (pc1 := 36) (pc := 35) k_M_readTest_35 rfl rfl ?_ | refine T_aload_nN (pc1 := 36) (pc := 35) k_M_readTest_35 rfl rfl ?_) <;> try (refine T_getV (pc1 := 39) (pc := 36) k_M_readTest_36 rfl f_M_213 rfl (by first | exact ga G (by decide) rfl | assumption) (by first | assumption | (simp (disch := omega) only [pI_eq, pI_row, pI_col, va_up_self, va_up_ne, ne_eq, not_false_eq_true] <;> rfl) | rfl) ?_ <;> try ((first | refine T_ialdN (pc1 := 40) (pc := 39) k_M_readTest_39 rfl (by first | exact ga G (by decide) rfl | assumption) (by omega) (by omega) (by first | assumption | (simp (disch := omega) only [pI_eq, pI_row, pI_col, va_up_self, va_up_ne, ne_eq, not_false_eq_true] <;> rfl) | rfl) ?_ | refine T_iald (pc1 := 40) (pc := 39) k_M_readTest_39 rfl (by first | exact ga G (by decide) rfl | assumption) (by assumption) ?_) <;> try (refine T_bipush (v := (nI 60)) (pc1 := 42) (pc := 40) k_M_readTest_40 rfl (by decide) ?_ <;> try ((first | (with_reducible refine T_icmp_neN (tgt := 50) (pc1 := 45) (pc := 42) k_M_readTest_42 (by decide) (by decide) (by omega) (by omega) (fun hc => ?_) (fun hc => ?_) <;> first | (exfalso; omega) | skip) | refine T_icmp_ne_t (tgt := 50) (pc := 42) k_M_readTest_42 rfl (by decide) ?_ | refine T_icmp_ne_f (tgt := 50) (pc1 := 45) (pc := 42) k_M_readTest_42 rfl rfl (by decide) ?_ | refine T_icmp_ne (tgt := 50) (pc1 := 45) (pc := 42) k_M_readTest_42 rfl rfl (fun hc => ?_) (fun hc => ?_)))))))))
          | (refine T_bipush (v := (-22)) (pc1 := 47) (pc := 45) k_M_readTest_45 rfl (by decide) ?_ <;> try (refine T_goto (tgt := 71) (pc := 47) k_M_readTest_47 rfl ?_))
          | ((first | refine T_aload_n (pc1 := 51) (pc := 50) k_M_readTest_50 rfl rfl ?_ | refine T_aload_nN (pc1 := 51) (pc := 50) k_M_readTest_50 rfl rfl ?_) <;> try (refine T_getR (pc1 := 54) (pc := 51) k_M_readTest_51 rfl f_M_28 rfl (by first | exact ga G (by decide) rfl | assumption) (by first | exact gr G (by decide) rfl | assumption) ?_ <;> try ((first | refine T_aload_n (pc1 := 55) (pc := 54) k_M_readTest_54 rfl rfl ?_ | refine T_aload_nN (pc1 := 55) (pc := 54) k_M_readTest_54 rfl rfl ?_) <;> try (refine T_getV (pc1 := 58) (pc := 55) k_M_readTest_55 rfl f_M_213 rfl (by first | exact ga G (by decide) rfl | assumption) (by first | assumption | (simp (disch := omega) only [pI_eq, pI_row, pI_col, va_up_self, va_up_ne, ne_eq, not_false_eq_true] <;> rfl) | rfl) ?_ <;> try ((first | refine T_ialdN (pc1 := 59) (pc := 58) k_M_readTest_58 rfl (by first | exact ga G (by decide) rfl | assumption) (by omega) (by omega) (by first | assumption | (simp (disch := omega) only [pI_eq, pI_row, pI_col, va_up_self, va_up_ne, ne_eq, not_false_eq_true] <;> rfl) | rfl) ?_ | refine T_iald (pc1 := 59) (pc := 58) k_M_readTest_58 rfl (by first | exact ga G (by decide) rfl | assumption) (by assumption) ?_) <;> try (refine T_bipush (v := (nI 61)) (pc1 := 61) (pc := 59) k_M_readTest_59 rfl (by decide) ?_ <;> try ((first | (with_reducible refine T_icmp_neN (tgt := 69) (pc1 := 64) (pc := 61) k_M_readTest_61 (by decide) (by decide) (by omega) (by omega) (fun hc => ?_) (fun hc => ?_) <;> first | (exfalso; omega) | skip) | refine T_icmp_ne_t (tgt := 69) (pc := 61) k_M_readTest_61 rfl (by decide) ?_ | refine T_icmp_ne_f (tgt := 69) (pc1 := 64) (pc := 61) k_M_readTest_61 rfl rfl (by decide) ?_ | refine T_icmp_ne (tgt := 69) (pc1 := 64) (pc := 61) k_M_readTest_61 rfl rfl (fun hc => ?_) (fun hc => ?_)))))))))
          | (refine T_bipush (v := (-23)) (pc1 := 66) (pc := 64) k_M_readTest_64 rfl (by decide) ?_ <;> try (refine T_goto (tgt := 71) (pc := 66) k_M_readTest_66 rfl ?_))
          | (refine T_bipush (v := (-24)) (pc1 := 71) (pc := 69) k_M_readTest_69 rfl (by decide) ?_)
          | (refine T_istore_n (pc1 := 72) (pc := 71) k_M_readTest_71 rfl (Nat.le_of_ble_eq_true rfl) ?_ <;> try ((first | refine T_aload_n (pc1 := 73) (pc := 72) k_M_readTest_72 rfl rfl ?_ | refine T_aload_nN (pc1 := 73) (pc := 72) k_M_readTest_72 rfl rfl ?_) <;> try (refine T_iconst (v := (nI 1)) (pc1 := 74) (pc := 73) k_M_readTest_73 rfl (by decide) ?_ <;> try ((refine T_cV (As := [_]) (d1 := 4) (pc1 := 77) (pc := 74) k_M_readTest_74 rfl (by show _ < 30 + _ + _ + _; omega) (Nat.le_of_ble_eq_true rfl) rfl o_M_must l_M_249 rfl (by first | exact ga G (by decide) rfl | assumption) rfl (c_M_must1 G okt hP hw (fun J1 hJ1 hJ1P => ?_)) <;> try dsimp only [psh])))))
          | refine T_getR (pc1 := 35) (pc := 32) k_M_readTest_32 rfl f_M_28 rfl (by first | exact ga G (by decide) rfl | assumption) (by first | exact gr G (by decide) rfl | assumption) ?_
          | refine T_aload_n (pc1 := 36) (pc := 35) k_M_readTest_35 rfl rfl ?_
          | refine T_aload_nN (pc1 := 36) (pc := 35) k_M_readTest_35 rfl rfl ?_
          | refine T_getV (pc1 := 39) (pc := 36) k_M_readTest_36 rfl f_M_213 rfl (by first | exact ga G (by decide) rfl | assumption) (by first | assumption | (simp (disch := omega) only [pI_eq, pI_row, pI_col, va_up_self, va_up_ne, ne_eq, not_false_eq_true] <;> rfl) | rfl) ?_
          | refine T_ialdN (pc1 := 40) (pc := 39) k_M_readTest_39 rfl (by first | exact ga G (by decide) rfl | assumption) (by omega) (by omega) (by first | assumption | (simp (disch := omega) only [pI_eq, pI_row, pI_col, va_up_self, va_up_ne, ne_eq, not_false_eq_true] <;> rfl) | rfl) ?_
          | refine T_iald (pc1 := 40) (pc := 39) k_M_readTest_39 rfl (by first | exact ga G (by decide) rfl | assumption) (by assumption) ?_
          | refine T_bipush (v := (nI 60)) (pc1 := 42) (pc := 40) k_M_readTest_40 rfl (by decide) ?_
          | (with_reducible refine T_icmp_neN (tgt := 50) (pc1 := 45) (pc := 42) k_M_readTest_42 (by decide) (by decide) (by omega) (by omega) (fun hc => ?_) (fun hc => ?_) <;> first | (exfalso; omega) | skip)
          | refine T_icmp_ne_t (tgt := 50) (pc := 42) k_M_readTest_42 rfl (by decide) ?_
          | refine T_icmp_ne_f (tgt := 50) (pc1 := 45) (pc := 42) k_M_readTest_42 rfl rfl (by decide) ?_
          | refine T_icmp_ne (tgt := 50) (pc1 := 45) (pc := 42) k_M_readTest_42 rfl rfl (fun hc => ?_) (fun hc => ?_)
          | refine T_goto (tgt := 71) (pc := 47) k_M_readTest_47 rfl ?_
          | refine T_getR (pc1 := 54) (pc := 51) k_M_readTest_51 rfl f_M_28 rfl (by first | exact ga G (by decide) rfl | assumption) (by first | exact gr G (by decide) rfl | assumption) ?_
          | refine T_aload_n (pc1 := 55) (pc := 54) k_M_readTest_54 rfl rfl ?_
          | refine T_aload_nN (pc1 := 55) (pc := 54) k_M_readTest_54 rfl rfl ?_
          | refine T_getV (pc1 := 58) (pc := 55) k_M_readTest_55 rfl f_M_213 rfl (by first | exact ga G (by decide) rfl | assumption) (by first | assumption | (simp (disch := omega) only [pI_eq, pI_row, pI_col, va_up_self, va_up_ne, ne_eq, not_false_eq_true] <;> rfl) | rfl) ?_
          | refine T_ialdN (pc1 := 59) (pc := 58) k_M_readTest_58 rfl (by first | exact ga G (by decide) rfl | assumption) (by omega) (by omega) (by first | assumption | (simp (disch := omega) only [pI_eq, pI_row, pI_col, va_up_self, va_up_ne, ne_eq, not_false_eq_true] <;> rfl) | rfl) ?_
          | refine T_iald (pc1 := 59) (pc := 58) k_M_readTest_58 rfl (by first | exact ga G (by decide) rfl | assumption) (by assumption) ?_
          | refine T_bipush (v := (nI 61)) (pc1 := 61) (pc := 59) k_M_readTest_59 rfl (by decide) ?_
          | (with_reducible refine T_icmp_neN (tgt := 69) (pc1 := 64) (pc := 61) k_M_readTest_61 (by decide) (by decide) (by omega) (by omega) (fun hc => ?_) (fun hc => ?_) <;> first | (exfalso; omega) | skip)
          | refine T_icmp_ne_t (tgt := 69) (pc := 61) k_M_readTest_61 rfl (by decide) ?_
          | refine T_icmp_ne_f (tgt := 69) (pc1 := 64) (pc := 61) k_M_readTest_61 rfl rfl (by decide) ?_
          | refine T_icmp_ne (tgt := 69) (pc1 := 64) (pc := 61) k_M_readTest_61 rfl rfl (fun hc => ?_) (fun hc => ?_)
          | refine T_goto (tgt := 71) (pc := 66) k_M_readTest_66 rfl ?_
          | refine T_aload_n (pc1 := 73) (pc := 72) k_M_readTest_72 rfl rfl ?_
          | refine T_aload_nN (pc1 := 73) (pc := 72) k_M_readTest_72 rfl rfl ?_
          | refine T_iconst (v := (nI 1)) (pc1 := 74) (pc := 73) k_M_readTest_73 rfl (by decide) ?_
          | (refine T_cV (As := [_]) (d1 := 4) (pc1 := 77) (pc := 74) k_M_readTest_74 rfl (by show _ < 30 + _ + _ + _; omega) (Nat.le_of_ble_eq_true rfl) rfl o_M_must l_M_249 rfl (by first | exact ga G (by decide) rfl | assumption) rfl (c_M_must1 G okt hP hw (fun J1 hJ1 hJ1P => ?_)) <;> try dsimp only [psh]))
        exact some_ _ hs J1 hJ1 hJ1P
      · refine none_ (sg_none ?_)
        by_cases c3 : pO p = 3
        · refine Or.inr ?_
          have x60 := (sgI_no hs60).resolve_left (fun q => q c3)
          have x61 := (sgI_no hs61).resolve_left (fun q => q c3)
          have x62 := (sgI_no hs62).resolve_left (fun q => q c3)
          show (if T (pS p) = nI 60 then some (-22 : Int32) else if T (pS p) = nI 61 then some (-23 : Int32) else if T (pS p) = nI 62 then some (-24 : Int32) else none) = none
          rw [if_neg x60, if_neg x61, if_neg x62]
        · exact Or.inl c3
  cases f with
  | zero => exfalso; omega
  | succ f =>
    rw [prs, if_pos (by decide)] at hr
    rw [rkm_le (by decide)] at hf
    have nf : 7 * (z - pS p) + rkm 3 < f := by rw [rkm_le (by decide)]; omega
    have h1 := prs_ok okt hk f 3 no op p (Or.inl (by decide)) hw nf hI (by omega)
    first | refine T_aload_n (pc1 := 1) (pc := 0) k_M_readTest_0 rfl rfl ?_ | refine T_aload_nN (pc1 := 1) (pc := 0) k_M_readTest_0 rfl rfl ?_
    refine T_cV (As := []) (d1 := dM 3 no op) (pc1 := 4) (pc := 1) k_M_readTest_1 rfl (by show 30 + _ + _ + _ < 30 + _ + _ + _; omega) (Nat.le_of_ble_eq_true rfl) rfl o_M_readSum l_M_277 rfl (ga G (by decide) rfl) rfl (IH f (by omega) no op p I _ hno hop hw nf hI hM hP (fun J2 hb hJ2 hJ2P => ?_) (fun J2 hb hJ2 hJ2P => ?_)) <;> try dsimp only [psh]
    · have e9 : 2 + 1 = 3 := rfl
      rw [e9, hb, if_neg (by decide)] at hr
      obtain ⟨a1, a2, a3⟩ := h1
      obtain ⟨b1, b2, b3, b4, b5⟩ := a3 hb
      have b1 := b1 (by decide)
      rw [if_pos (by decide)] at b5
      have a5 := a1.1
      have a6 := a1.2.1
      exact loop f (by omega) _ _ J2 a1 (by omega) b4 (by omega) (by omega) hJ2P hJ2 hr
    · have e9 : 2 + 1 = 3 := rfl
      rw [e9, hb, if_pos rfl] at hr
      exact bad _ _ J2 hr.symm hJ2 hJ2P
set_option maxHeartbeats 4000000 in
theorem c_M_readAnd_of {f : Nat} (G : GeoOK g) (hF : g.1.2.2.category = 1) (okt : okTp T z) (hk : key < 3) (IH : ∀ f', f' < f → RdC g T z key f' 2) : RdC g T z key f 1 := by
  intro no op p I K hno hop hw hf hI hM hP k0 k1
  show Rl (dM 1 no op) M_M_readAnd 0 [some (.ref 101)] [] g I K
  have h96 := okt.1
  generalize hr : prs T z key f 1 no op p = r at k0 k1
  have bad : ∀ (q : PS) (J : IM), r = (true, q) → FrM I J → PMw T z key q J → Rl (dM 1 no op) M_M_readAnd 4 [some (.ref 101)] [] g J K := by
    intro q J hrq hJ hJP
    subst hrq
    repeat' (first
      | ((first | refine T_aload_n (pc1 := 5) (pc := 4) k_M_readAnd_4 rfl rfl ?_ | refine T_aload_nN (pc1 := 5) (pc := 4) k_M_readAnd_4 rfl rfl ?_) <;> try (refine T_bipush (v := (nI 38)) (pc1 := 7) (pc := 5) k_M_readAnd_5 rfl (by decide) ?_ <;> try ((refine T_cV (As := [_]) (d1 := 1) (pc1 := 10) (pc := 7) k_M_readAnd_7 rfl (by show _ < 30 + _ + _ + _; omega) (Nat.le_of_ble_eq_true rfl) rfl o_M_isSign l_M_243 rfl (by first | exact ga G (by decide) rfl | assumption) rfl (c_M_isSignW G hJP ?_) <;> try dsimp only [psh]) <;> try ((first | (with_reducible refine T_if_eqN (tgt := 31) (pc1 := 13) (pc := 10) k_M_readAnd_10 (by decide) (by decide) (by omega) (fun hc => ?_) (fun hc => ?_) <;> first | (exfalso; omega) | skip) | refine T_if_eq_t (tgt := 31) (pc := 10) k_M_readAnd_10 rfl (by decide) ?_ | refine T_if_eq_f (tgt := 31) (pc1 := 13) (pc := 10) k_M_readAnd_10 rfl rfl (by decide) ?_ | refine T_if_eq (tgt := 31) (pc1 := 13) (pc := 10) k_M_readAnd_10 rfl rfl (fun hc => ?_) (fun hc => ?_))))))
      | ((first | refine T_aload_n (pc1 := 14) (pc := 13) k_M_readAnd_13 rfl rfl ?_ | refine T_aload_nN (pc1 := 14) (pc := 13) k_M_readAnd_13 rfl rfl ?_) <;> try (refine T_iconst (v := (nI 1)) (pc1 := 15) (pc := 14) k_M_readAnd_14 rfl (by decide) ?_))
      | ((first | refine T_aload_n (pc1 := 19) (pc := 18) k_M_readAnd_18 rfl rfl ?_ | refine T_aload_nN (pc1 := 19) (pc := 18) k_M_readAnd_18 rfl rfl ?_))
      | ((first | refine T_aload_n (pc1 := 23) (pc := 22) k_M_readAnd_22 rfl rfl ?_ | refine T_aload_nN (pc1 := 23) (pc := 22) k_M_readAnd_22 rfl rfl ?_) <;> try (refine T_bipush (v := (-21)) (pc1 := 25) (pc := 23) k_M_readAnd_23 rfl (by decide) ?_))
      | (refine T_goto (tgt := 4) (pc := 28) k_M_readAnd_28 rfl ?_)
      | (refine T_retV (pc := 31) k_M_readAnd_31 rfl ?_)
      | refine T_bipush (v := (nI 38)) (pc1 := 7) (pc := 5) k_M_readAnd_5 rfl (by decide) ?_
      | (refine T_cV (As := [_]) (d1 := 1) (pc1 := 10) (pc := 7) k_M_readAnd_7 rfl (by show _ < 30 + _ + _ + _; omega) (Nat.le_of_ble_eq_true rfl) rfl o_M_isSign l_M_243 rfl (by first | exact ga G (by decide) rfl | assumption) rfl (c_M_isSignW G hJP ?_) <;> try dsimp only [psh])
      | (with_reducible refine T_if_eqN (tgt := 31) (pc1 := 13) (pc := 10) k_M_readAnd_10 (by decide) (by decide) (by omega) (fun hc => ?_) (fun hc => ?_) <;> first | (exfalso; omega) | skip)
      | refine T_if_eq_t (tgt := 31) (pc := 10) k_M_readAnd_10 rfl (by decide) ?_
      | refine T_if_eq_f (tgt := 31) (pc1 := 13) (pc := 10) k_M_readAnd_10 rfl rfl (by decide) ?_
      | refine T_if_eq (tgt := 31) (pc1 := 13) (pc := 10) k_M_readAnd_10 rfl rfl (fun hc => ?_) (fun hc => ?_)
      | refine T_iconst (v := (nI 1)) (pc1 := 15) (pc := 14) k_M_readAnd_14 rfl (by decide) ?_
      | refine T_bipush (v := (-21)) (pc1 := 25) (pc := 23) k_M_readAnd_23 rfl (by decide) ?_)
    exact k1 J rfl hJ hJP
  have loop : ∀ q, q < f → ∀ (p : PS) (J : IM), wfP T z p → 7 * (z - pS p) + 6 < q → okI (pC p) (pM p) (pV p) (nnOf key) → 1 ≤ dp (pC p) (pM p) → pM p ≤ pS p → PMo T z key no op p J → FrM I J → prs T z key q 11 no op p = r → Rl (dM 1 no op) M_M_readAnd 4 [some (.ref 101)] [] g J K := by
    intro q
    induction q with
    | zero => intro hq p J hw hf; exfalso; omega
    | succ q ih =>
      intro hq p J hw hf hI hd hM hP hFr hr
      have w1 := hw.1
      have w2 := hw.2.1
      rw [prs, if_neg (by decide), if_neg (by decide)] at hr
      obtain ⟨n1, n2⟩ := nx_wf okt w2
      have n3 := n1.1
      have n4 := n1.2.1
      obtain ⟨h1, h2, h3, h4, h5, h6, h7, h8, h9, h10, h11, h12⟩ := id hP
      have none_ : sgOf T 1 p = none → Rl (dM 1 no op) M_M_readAnd 31 [some (.ref 101)] [] g J K := by
        intro hs
        rw [hs] at hr
        dsimp only at hr
        subst hr
        repeat' (first
          | (refine T_retV (pc := 31) k_M_readAnd_31 rfl ?_))
        exact k0 J rfl hFr hP
      have some_ : ∀ c : Int32, sgOf T 1 p = some c → ∀ J1 : IM, FrM J J1 → PMo T z key no op (nx T z p) J1 → Rl (dM 1 no op) M_M_readAnd 18 [some (.ref 101)] [] g J1 K := by
        intro c hs J1 hJ1 hJ1P
        obtain rfl : c = -21 := by
          obtain ⟨-, q2⟩ := sgOf_3 hs
          have q2 : (if T (pS p) = nI 38 then some (-21 : Int32) else none) = some c := q2
          split at q2 <;> cases q2
          rfl
        rw [hs] at hr
        dsimp only at hr
        have w4 := hw.2.2.1 (by rw [(sgOf_3 hs).1]; decide)
        obtain ⟨qa, qb⟩ := sgC_op (sgOf_3 hs).2
        have nI0 : okI (pC (nx T z p)) (pM (nx T z p)) (pV (nx T z p)) (nnOf key) := hI
        have nM : pM (nx T z p) ≤ pS (nx T z p) := by show pM p ≤ pS (nx T z p); omega
        have nf : 7 * (z - pS (nx T z p)) + rkm 2 < q := by rw [rkm_le (by decide)]; omega
        have h1 := prs_ok okt hk q 2 no op (nx T z p) (Or.inl (by decide)) n1 nf nI0 (by omega)
        first | refine T_aload_n (pc1 := 19) (pc := 18) k_M_readAnd_18 rfl rfl ?_ | refine T_aload_nN (pc1 := 19) (pc := 18) k_M_readAnd_18 rfl rfl ?_
        refine T_cV (As := []) (d1 := dM 2 no op) (pc1 := 22) (pc := 19) k_M_readAnd_19 rfl (by show 30 + _ + _ + _ < 30 + _ + _ + _; omega) (Nat.le_of_ble_eq_true rfl) rfl o_M_readTest l_M_280 rfl (ga G (by decide) rfl) rfl (IH q (by omega) no op (nx T z p) J1 _ hno hop n1 nf nI0 nM hJ1P (fun J2 hb hJ2 hJ2P => ?_) (fun J2 hb hJ2 hJ2P => ?_)) <;> try dsimp only [psh]
        · have e9 : 11 - 9 = 2 := rfl
          rw [e9, hb, if_neg (by decide), if_neg (by decide)] at hr
          obtain ⟨a1, a2, a3⟩ := h1
          obtain ⟨b1, b2, b3, b4, b5⟩ := a3 hb
          have b1 := b1 (by decide)
          rw [if_pos (by decide)] at b5
          have b5 : dp (pC (prs T z key q 2 no op (nx T z p)).2) (pM (prs T z key q 2 no op (nx T z p)).2) = dp (pC p) (pM p) + 1 := b5
          have b3 : pM (prs T z key q 2 no op (nx T z p)).2 + pS (nx T z p) ≤ pM p + pS (prs T z key q 2 no op (nx T z p)).2 := b3
          generalize (prs T z key q 2 no op (nx T z p)).2 = p1 at *
          have a5 := a1.1
          have a6 := a1.2.1
          obtain ⟨o1, o2⟩ := okI_two b4 qa qb (by omega)
          repeat' (first
            | ((first | refine T_aload_n (pc1 := 23) (pc := 22) k_M_readAnd_22 rfl rfl ?_ | refine T_aload_nN (pc1 := 23) (pc := 22) k_M_readAnd_22 rfl rfl ?_) <;> try (refine T_bipush (v := (-21)) (pc1 := 25) (pc := 23) k_M_readAnd_23 rfl (by decide) ?_ <;> try ((refine T_cV (As := [_]) (d1 := 1) (pc1 := 28) (pc := 25) k_M_readAnd_25 rfl (by show _ < 30 + _ + _ + _; omega) (Nat.le_of_ble_eq_true rfl) rfl o_M_step l_M_256 rfl (by first | exact ga G (by decide) rfl | assumption) rfl (c_M_stepO G hJ2P (by omega) (fun J3 hJ3 hJ3P => ?_)) <;> try dsimp only [psh]) <;> try (refine T_goto (tgt := 4) (pc := 28) k_M_readAnd_28 rfl ?_))))
            | refine T_bipush (v := (-21)) (pc1 := 25) (pc := 23) k_M_readAnd_23 rfl (by decide) ?_
            | (refine T_cV (As := [_]) (d1 := 1) (pc1 := 28) (pc := 25) k_M_readAnd_25 rfl (by show _ < 30 + _ + _ + _; omega) (Nat.le_of_ble_eq_true rfl) rfl o_M_step l_M_256 rfl (by first | exact ga G (by decide) rfl | assumption) rfl (c_M_stepO G hJ2P (by omega) (fun J3 hJ3 hJ3P => ?_)) <;> try dsimp only [psh])
            | refine T_goto (tgt := 4) (pc := 28) k_M_readAnd_28 rfl ?_)
          exact ih (by omega) (ps1 p1 _) J3 a1 (by show 7 * (z - pS p1) + 6 < q; omega) o1 (by show 1 ≤ dp (va_up (pC p1) (pM p1) _) (pM p1 + 1); rw [o2]; omega) (by show pM p1 + 1 ≤ pS p1; omega) hJ3P (FrM_tr hFr (FrM_tr hJ1 (FrM_tr hJ2 hJ3))) hr
        · have e9 : 11 - 9 = 2 := rfl
          rw [e9, hb, if_pos rfl] at hr
          repeat' (first
            | ((first | refine T_aload_n (pc1 := 23) (pc := 22) k_M_readAnd_22 rfl rfl ?_ | refine T_aload_nN (pc1 := 23) (pc := 22) k_M_readAnd_22 rfl rfl ?_) <;> try (refine T_bipush (v := (-21)) (pc1 := 25) (pc := 23) k_M_readAnd_23 rfl (by decide) ?_ <;> try ((refine T_cV (As := [_]) (d1 := 1) (pc1 := 28) (pc := 25) k_M_readAnd_25 rfl (by show _ < 30 + _ + _ + _; omega) (Nat.le_of_ble_eq_true rfl) rfl o_M_step l_M_256 rfl (by first | exact ga G (by decide) rfl | assumption) rfl (c_M_stepW G hJ2P ?_) <;> try dsimp only [psh]) <;> try (refine T_goto (tgt := 4) (pc := 28) k_M_readAnd_28 rfl ?_))))
            | refine T_bipush (v := (-21)) (pc1 := 25) (pc := 23) k_M_readAnd_23 rfl (by decide) ?_
            | (refine T_cV (As := [_]) (d1 := 1) (pc1 := 28) (pc := 25) k_M_readAnd_25 rfl (by show _ < 30 + _ + _ + _; omega) (Nat.le_of_ble_eq_true rfl) rfl o_M_step l_M_256 rfl (by first | exact ga G (by decide) rfl | assumption) rfl (c_M_stepW G hJ2P ?_) <;> try dsimp only [psh])
            | refine T_goto (tgt := 4) (pc := 28) k_M_readAnd_28 rfl ?_)
          exact bad _ J2 hr.symm (FrM_tr hFr (FrM_tr hJ1 hJ2)) hJ2P
      first | refine T_aload_n (pc1 := 5) (pc := 4) k_M_readAnd_4 rfl rfl ?_ | refine T_aload_nN (pc1 := 5) (pc := 4) k_M_readAnd_4 rfl rfl ?_
      repeat' (first
        | (refine T_bipush (v := (nI 38)) (pc1 := 7) (pc := 5) k_M_readAnd_5 rfl (by decide) ?_ <;> try ((refine T_cV (As := [_]) (d1 := 1) (pc1 := 10) (pc := 7) k_M_readAnd_7 rfl (by show _ < 30 + _ + _ + _; omega) (Nat.le_of_ble_eq_true rfl) rfl o_M_isSign l_M_243 rfl (by first | exact ga G (by decide) rfl | assumption) rfl (c_M_isSignO G okt (by decide) hP hw (fun hs38 => ?_) (fun hs38 => ?_)) <;> try dsimp only [psh]) <;> try ((first | (with_reducible refine T_if_eqN (tgt := 31) (pc1 := 13) (pc := 10) k_M_readAnd_10 (by decide) (by decide) (by omega) (fun hc => ?_) (fun hc => ?_) <;> first | (exfalso; omega) | skip) | refine T_if_eq_t (tgt := 31) (pc := 10) k_M_readAnd_10 rfl (by decide) ?_ | refine T_if_eq_f (tgt := 31) (pc1 := 13) (pc := 10) k_M_readAnd_10 rfl rfl (by decide) ?_ | refine T_if_eq (tgt := 31) (pc1 := 13) (pc := 10) k_M_readAnd_10 rfl rfl (fun hc => ?_) (fun hc => ?_)))))
        | (refine T_cV (As := [_]) (d1 := 1) (pc1 := 10) (pc := 7) k_M_readAnd_7 rfl (by show _ < 30 + _ + _ + _; omega) (Nat.le_of_ble_eq_true rfl) rfl o_M_isSign l_M_243 rfl (by first | exact ga G (by decide) rfl | assumption) rfl (c_M_isSignO G okt (by decide) hP hw (fun hs38 => ?_) (fun hs38 => ?_)) <;> try dsimp only [psh])
        | (with_reducible refine T_if_eqN (tgt := 31) (pc1 := 13) (pc := 10) k_M_readAnd_10 (by decide) (by decide) (by omega) (fun hc => ?_) (fun hc => ?_) <;> first | (exfalso; omega) | skip)
        | refine T_if_eq_t (tgt := 31) (pc := 10) k_M_readAnd_10 rfl (by decide) ?_
        | refine T_if_eq_f (tgt := 31) (pc1 := 13) (pc := 10) k_M_readAnd_10 rfl rfl (by decide) ?_
        | refine T_if_eq (tgt := 31) (pc1 := 13) (pc := 10) k_M_readAnd_10 rfl rfl (fun hc => ?_) (fun hc => ?_))
      · have w4 := hw.2.2.1 (by rw [(sgI_3 hs38).1]; decide)
        have e : J 108 (pS p) = nI 38 := by rw [h1]; exact (sgI_3 hs38).2
        have hs : sgOf T 1 p = some (-21) := by
          unfold sgOf
          rw [if_pos (sgI_3 hs38).1, (sgI_3 hs38).2]
          rfl
        repeat' (first
          | ((first | refine T_aload_n (pc1 := 14) (pc := 13) k_M_readAnd_13 rfl rfl ?_ | refine T_aload_nN (pc1 := 14) (pc := 13) k_M_readAnd_13 rfl rfl ?_) <;> try (refine T_iconst (v := (nI 1)) (pc1 := 15) (pc := 14) k_M_readAnd_14 rfl (by decide) ?_ <;> try ((refine T_cV (As := [_]) (d1 := 4) (pc1 := 18) (pc := 15) k_M_readAnd_15 rfl (by show _ < 30 + _ + _ + _; omega) (Nat.le_of_ble_eq_true rfl) rfl o_M_must l_M_249 rfl (by first | exact ga G (by decide) rfl | assumption) rfl (c_M_must1 G okt hP hw (fun J1 hJ1 hJ1P => ?_)) <;> try dsimp only [psh]))))
          | refine T_iconst (v := (nI 1)) (pc1 := 15) (pc := 14) k_M_readAnd_14 rfl (by decide) ?_
          | (refine T_cV (As := [_]) (d1 := 4) (pc1 := 18) (pc := 15) k_M_readAnd_15 rfl (by show _ < 30 + _ + _ + _; omega) (Nat.le_of_ble_eq_true rfl) rfl o_M_must l_M_249 rfl (by first | exact ga G (by decide) rfl | assumption) rfl (c_M_must1 G okt hP hw (fun J1 hJ1 hJ1P => ?_)) <;> try dsimp only [psh]))
        exact some_ _ hs J1 hJ1 hJ1P
      · refine none_ (sg_none ?_)
        by_cases c3 : pO p = 3
        · refine Or.inr ?_
          have x38 := (sgI_no hs38).resolve_left (fun q => q c3)
          show (if T (pS p) = nI 38 then some (-21 : Int32) else none) = none
          rw [if_neg x38]
        · exact Or.inl c3
  cases f with
  | zero => exfalso; omega
  | succ f =>
    rw [prs, if_pos (by decide)] at hr
    rw [rkm_le (by decide)] at hf
    have nf : 7 * (z - pS p) + rkm 2 < f := by rw [rkm_le (by decide)]; omega
    have h1 := prs_ok okt hk f 2 no op p (Or.inl (by decide)) hw nf hI (by omega)
    first | refine T_aload_n (pc1 := 1) (pc := 0) k_M_readAnd_0 rfl rfl ?_ | refine T_aload_nN (pc1 := 1) (pc := 0) k_M_readAnd_0 rfl rfl ?_
    refine T_cV (As := []) (d1 := dM 2 no op) (pc1 := 4) (pc := 1) k_M_readAnd_1 rfl (by show 30 + _ + _ + _ < 30 + _ + _ + _; omega) (Nat.le_of_ble_eq_true rfl) rfl o_M_readTest l_M_280 rfl (ga G (by decide) rfl) rfl (IH f (by omega) no op p I _ hno hop hw nf hI hM hP (fun J2 hb hJ2 hJ2P => ?_) (fun J2 hb hJ2 hJ2P => ?_)) <;> try dsimp only [psh]
    · have e9 : 1 + 1 = 2 := rfl
      rw [e9, hb, if_neg (by decide)] at hr
      obtain ⟨a1, a2, a3⟩ := h1
      obtain ⟨b1, b2, b3, b4, b5⟩ := a3 hb
      have b1 := b1 (by decide)
      rw [if_pos (by decide)] at b5
      have a5 := a1.1
      have a6 := a1.2.1
      exact loop f (by omega) _ J2 a1 (by omega) b4 (by omega) (by omega) hJ2P hJ2 hr
    · have e9 : 1 + 1 = 2 := rfl
      rw [e9, hb, if_pos rfl] at hr
      exact bad _ J2 hr.symm hJ2 hJ2P
set_option maxHeartbeats 4000000 in
theorem c_M_readOr_of {f : Nat} (G : GeoOK g) (hF : g.1.2.2.category = 1) (okt : okTp T z) (hk : key < 3) (IH : ∀ f', f' < f → RdC g T z key f' 1) : RdC g T z key f 0 := by
  intro no op p I K hno hop hw hf hI hM hP k0 k1
  show Rl (dM 0 no op) M_M_readOr 0 [some (.ref 101)] [] g I K
  have h96 := okt.1
  generalize hr : prs T z key f 0 no op p = r at k0 k1
  have bad : ∀ (q : PS) (J : IM), r = (true, q) → FrM I J → PMw T z key q J → Rl (dM 0 no op) M_M_readOr 4 [some (.ref 101)] [] g J K := by
    intro q J hrq hJ hJP
    subst hrq
    repeat' (first
      | ((first | refine T_aload_n (pc1 := 5) (pc := 4) k_M_readOr_4 rfl rfl ?_ | refine T_aload_nN (pc1 := 5) (pc := 4) k_M_readOr_4 rfl rfl ?_) <;> try (refine T_bipush (v := (nI 124)) (pc1 := 7) (pc := 5) k_M_readOr_5 rfl (by decide) ?_ <;> try ((refine T_cV (As := [_]) (d1 := 1) (pc1 := 10) (pc := 7) k_M_readOr_7 rfl (by show _ < 30 + _ + _ + _; omega) (Nat.le_of_ble_eq_true rfl) rfl o_M_isSign l_M_243 rfl (by first | exact ga G (by decide) rfl | assumption) rfl (c_M_isSignW G hJP ?_) <;> try dsimp only [psh]) <;> try ((first | (with_reducible refine T_if_eqN (tgt := 31) (pc1 := 13) (pc := 10) k_M_readOr_10 (by decide) (by decide) (by omega) (fun hc => ?_) (fun hc => ?_) <;> first | (exfalso; omega) | skip) | refine T_if_eq_t (tgt := 31) (pc := 10) k_M_readOr_10 rfl (by decide) ?_ | refine T_if_eq_f (tgt := 31) (pc1 := 13) (pc := 10) k_M_readOr_10 rfl rfl (by decide) ?_ | refine T_if_eq (tgt := 31) (pc1 := 13) (pc := 10) k_M_readOr_10 rfl rfl (fun hc => ?_) (fun hc => ?_))))))
      | ((first | refine T_aload_n (pc1 := 14) (pc := 13) k_M_readOr_13 rfl rfl ?_ | refine T_aload_nN (pc1 := 14) (pc := 13) k_M_readOr_13 rfl rfl ?_) <;> try (refine T_iconst (v := (nI 1)) (pc1 := 15) (pc := 14) k_M_readOr_14 rfl (by decide) ?_))
      | ((first | refine T_aload_n (pc1 := 19) (pc := 18) k_M_readOr_18 rfl rfl ?_ | refine T_aload_nN (pc1 := 19) (pc := 18) k_M_readOr_18 rfl rfl ?_))
      | ((first | refine T_aload_n (pc1 := 23) (pc := 22) k_M_readOr_22 rfl rfl ?_ | refine T_aload_nN (pc1 := 23) (pc := 22) k_M_readOr_22 rfl rfl ?_) <;> try (refine T_bipush (v := (-20)) (pc1 := 25) (pc := 23) k_M_readOr_23 rfl (by decide) ?_))
      | (refine T_goto (tgt := 4) (pc := 28) k_M_readOr_28 rfl ?_)
      | (refine T_retV (pc := 31) k_M_readOr_31 rfl ?_)
      | refine T_bipush (v := (nI 124)) (pc1 := 7) (pc := 5) k_M_readOr_5 rfl (by decide) ?_
      | (refine T_cV (As := [_]) (d1 := 1) (pc1 := 10) (pc := 7) k_M_readOr_7 rfl (by show _ < 30 + _ + _ + _; omega) (Nat.le_of_ble_eq_true rfl) rfl o_M_isSign l_M_243 rfl (by first | exact ga G (by decide) rfl | assumption) rfl (c_M_isSignW G hJP ?_) <;> try dsimp only [psh])
      | (with_reducible refine T_if_eqN (tgt := 31) (pc1 := 13) (pc := 10) k_M_readOr_10 (by decide) (by decide) (by omega) (fun hc => ?_) (fun hc => ?_) <;> first | (exfalso; omega) | skip)
      | refine T_if_eq_t (tgt := 31) (pc := 10) k_M_readOr_10 rfl (by decide) ?_
      | refine T_if_eq_f (tgt := 31) (pc1 := 13) (pc := 10) k_M_readOr_10 rfl rfl (by decide) ?_
      | refine T_if_eq (tgt := 31) (pc1 := 13) (pc := 10) k_M_readOr_10 rfl rfl (fun hc => ?_) (fun hc => ?_)
      | refine T_iconst (v := (nI 1)) (pc1 := 15) (pc := 14) k_M_readOr_14 rfl (by decide) ?_
      | refine T_bipush (v := (-20)) (pc1 := 25) (pc := 23) k_M_readOr_23 rfl (by decide) ?_)
    exact k1 J rfl hJ hJP
  have loop : ∀ q, q < f → ∀ (p : PS) (J : IM), wfP T z p → 7 * (z - pS p) + 6 < q → okI (pC p) (pM p) (pV p) (nnOf key) → 1 ≤ dp (pC p) (pM p) → pM p ≤ pS p → PMo T z key no op p J → FrM I J → prs T z key q 10 no op p = r → Rl (dM 0 no op) M_M_readOr 4 [some (.ref 101)] [] g J K := by
    intro q
    induction q with
    | zero => intro hq p J hw hf; exfalso; omega
    | succ q ih =>
      intro hq p J hw hf hI hd hM hP hFr hr
      have w1 := hw.1
      have w2 := hw.2.1
      rw [prs, if_neg (by decide), if_neg (by decide)] at hr
      obtain ⟨n1, n2⟩ := nx_wf okt w2
      have n3 := n1.1
      have n4 := n1.2.1
      obtain ⟨h1, h2, h3, h4, h5, h6, h7, h8, h9, h10, h11, h12⟩ := id hP
      have none_ : sgOf T 0 p = none → Rl (dM 0 no op) M_M_readOr 31 [some (.ref 101)] [] g J K := by
        intro hs
        rw [hs] at hr
        dsimp only at hr
        subst hr
        repeat' (first
          | (refine T_retV (pc := 31) k_M_readOr_31 rfl ?_))
        exact k0 J rfl hFr hP
      have some_ : ∀ c : Int32, sgOf T 0 p = some c → ∀ J1 : IM, FrM J J1 → PMo T z key no op (nx T z p) J1 → Rl (dM 0 no op) M_M_readOr 18 [some (.ref 101)] [] g J1 K := by
        intro c hs J1 hJ1 hJ1P
        obtain rfl : c = -20 := by
          obtain ⟨-, q2⟩ := sgOf_3 hs
          have q2 : (if T (pS p) = nI 124 then some (-20 : Int32) else none) = some c := q2
          split at q2 <;> cases q2
          rfl
        rw [hs] at hr
        dsimp only at hr
        have w4 := hw.2.2.1 (by rw [(sgOf_3 hs).1]; decide)
        obtain ⟨qa, qb⟩ := sgC_op (sgOf_3 hs).2
        have nI0 : okI (pC (nx T z p)) (pM (nx T z p)) (pV (nx T z p)) (nnOf key) := hI
        have nM : pM (nx T z p) ≤ pS (nx T z p) := by show pM p ≤ pS (nx T z p); omega
        have nf : 7 * (z - pS (nx T z p)) + rkm 1 < q := by rw [rkm_le (by decide)]; omega
        have h1 := prs_ok okt hk q 1 no op (nx T z p) (Or.inl (by decide)) n1 nf nI0 (by omega)
        first | refine T_aload_n (pc1 := 19) (pc := 18) k_M_readOr_18 rfl rfl ?_ | refine T_aload_nN (pc1 := 19) (pc := 18) k_M_readOr_18 rfl rfl ?_
        refine T_cV (As := []) (d1 := dM 1 no op) (pc1 := 22) (pc := 19) k_M_readOr_19 rfl (by show 30 + _ + _ + _ < 30 + _ + _ + _; omega) (Nat.le_of_ble_eq_true rfl) rfl o_M_readAnd l_M_283 rfl (ga G (by decide) rfl) rfl (IH q (by omega) no op (nx T z p) J1 _ hno hop n1 nf nI0 nM hJ1P (fun J2 hb hJ2 hJ2P => ?_) (fun J2 hb hJ2 hJ2P => ?_)) <;> try dsimp only [psh]
        · have e9 : 10 - 9 = 1 := rfl
          rw [e9, hb, if_neg (by decide), if_neg (by decide)] at hr
          obtain ⟨a1, a2, a3⟩ := h1
          obtain ⟨b1, b2, b3, b4, b5⟩ := a3 hb
          have b1 := b1 (by decide)
          rw [if_pos (by decide)] at b5
          have b5 : dp (pC (prs T z key q 1 no op (nx T z p)).2) (pM (prs T z key q 1 no op (nx T z p)).2) = dp (pC p) (pM p) + 1 := b5
          have b3 : pM (prs T z key q 1 no op (nx T z p)).2 + pS (nx T z p) ≤ pM p + pS (prs T z key q 1 no op (nx T z p)).2 := b3
          generalize (prs T z key q 1 no op (nx T z p)).2 = p1 at *
          have a5 := a1.1
          have a6 := a1.2.1
          obtain ⟨o1, o2⟩ := okI_two b4 qa qb (by omega)
          repeat' (first
            | ((first | refine T_aload_n (pc1 := 23) (pc := 22) k_M_readOr_22 rfl rfl ?_ | refine T_aload_nN (pc1 := 23) (pc := 22) k_M_readOr_22 rfl rfl ?_) <;> try (refine T_bipush (v := (-20)) (pc1 := 25) (pc := 23) k_M_readOr_23 rfl (by decide) ?_ <;> try ((refine T_cV (As := [_]) (d1 := 1) (pc1 := 28) (pc := 25) k_M_readOr_25 rfl (by show _ < 30 + _ + _ + _; omega) (Nat.le_of_ble_eq_true rfl) rfl o_M_step l_M_256 rfl (by first | exact ga G (by decide) rfl | assumption) rfl (c_M_stepO G hJ2P (by omega) (fun J3 hJ3 hJ3P => ?_)) <;> try dsimp only [psh]) <;> try (refine T_goto (tgt := 4) (pc := 28) k_M_readOr_28 rfl ?_))))
            | refine T_bipush (v := (-20)) (pc1 := 25) (pc := 23) k_M_readOr_23 rfl (by decide) ?_
            | (refine T_cV (As := [_]) (d1 := 1) (pc1 := 28) (pc := 25) k_M_readOr_25 rfl (by show _ < 30 + _ + _ + _; omega) (Nat.le_of_ble_eq_true rfl) rfl o_M_step l_M_256 rfl (by first | exact ga G (by decide) rfl | assumption) rfl (c_M_stepO G hJ2P (by omega) (fun J3 hJ3 hJ3P => ?_)) <;> try dsimp only [psh])
            | refine T_goto (tgt := 4) (pc := 28) k_M_readOr_28 rfl ?_)
          exact ih (by omega) (ps1 p1 _) J3 a1 (by show 7 * (z - pS p1) + 6 < q; omega) o1 (by show 1 ≤ dp (va_up (pC p1) (pM p1) _) (pM p1 + 1); rw [o2]; omega) (by show pM p1 + 1 ≤ pS p1; omega) hJ3P (FrM_tr hFr (FrM_tr hJ1 (FrM_tr hJ2 hJ3))) hr
        · have e9 : 10 - 9 = 1 := rfl
          rw [e9, hb, if_pos rfl] at hr
          repeat' (first
            | ((first | refine T_aload_n (pc1 := 23) (pc := 22) k_M_readOr_22 rfl rfl ?_ | refine T_aload_nN (pc1 := 23) (pc := 22) k_M_readOr_22 rfl rfl ?_) <;> try (refine T_bipush (v := (-20)) (pc1 := 25) (pc := 23) k_M_readOr_23 rfl (by decide) ?_ <;> try ((refine T_cV (As := [_]) (d1 := 1) (pc1 := 28) (pc := 25) k_M_readOr_25 rfl (by show _ < 30 + _ + _ + _; omega) (Nat.le_of_ble_eq_true rfl) rfl o_M_step l_M_256 rfl (by first | exact ga G (by decide) rfl | assumption) rfl (c_M_stepW G hJ2P ?_) <;> try dsimp only [psh]) <;> try (refine T_goto (tgt := 4) (pc := 28) k_M_readOr_28 rfl ?_))))
            | refine T_bipush (v := (-20)) (pc1 := 25) (pc := 23) k_M_readOr_23 rfl (by decide) ?_
            | (refine T_cV (As := [_]) (d1 := 1) (pc1 := 28) (pc := 25) k_M_readOr_25 rfl (by show _ < 30 + _ + _ + _; omega) (Nat.le_of_ble_eq_true rfl) rfl o_M_step l_M_256 rfl (by first | exact ga G (by decide) rfl | assumption) rfl (c_M_stepW G hJ2P ?_) <;> try dsimp only [psh])
            | refine T_goto (tgt := 4) (pc := 28) k_M_readOr_28 rfl ?_)
          exact bad _ J2 hr.symm (FrM_tr hFr (FrM_tr hJ1 hJ2)) hJ2P
      first | refine T_aload_n (pc1 := 5) (pc := 4) k_M_readOr_4 rfl rfl ?_ | refine T_aload_nN (pc1 := 5) (pc := 4) k_M_readOr_4 rfl rfl ?_
      repeat' (first
        | (refine T_bipush (v := (nI 124)) (pc1 := 7) (pc := 5) k_M_readOr_5 rfl (by decide) ?_ <;> try ((refine T_cV (As := [_]) (d1 := 1) (pc1 := 10) (pc := 7) k_M_readOr_7 rfl (by show _ < 30 + _ + _ + _; omega) (Nat.le_of_ble_eq_true rfl) rfl o_M_isSign l_M_243 rfl (by first | exact ga G (by decide) rfl | assumption) rfl (c_M_isSignO G okt (by decide) hP hw (fun hs124 => ?_) (fun hs124 => ?_)) <;> try dsimp only [psh]) <;> try ((first | (with_reducible refine T_if_eqN (tgt := 31) (pc1 := 13) (pc := 10) k_M_readOr_10 (by decide) (by decide) (by omega) (fun hc => ?_) (fun hc => ?_) <;> first | (exfalso; omega) | skip) | refine T_if_eq_t (tgt := 31) (pc := 10) k_M_readOr_10 rfl (by decide) ?_ | refine T_if_eq_f (tgt := 31) (pc1 := 13) (pc := 10) k_M_readOr_10 rfl rfl (by decide) ?_ | refine T_if_eq (tgt := 31) (pc1 := 13) (pc := 10) k_M_readOr_10 rfl rfl (fun hc => ?_) (fun hc => ?_)))))
        | (refine T_cV (As := [_]) (d1 := 1) (pc1 := 10) (pc := 7) k_M_readOr_7 rfl (by show _ < 30 + _ + _ + _; omega) (Nat.le_of_ble_eq_true rfl) rfl o_M_isSign l_M_243 rfl (by first | exact ga G (by decide) rfl | assumption) rfl (c_M_isSignO G okt (by decide) hP hw (fun hs124 => ?_) (fun hs124 => ?_)) <;> try dsimp only [psh])
        | (with_reducible refine T_if_eqN (tgt := 31) (pc1 := 13) (pc := 10) k_M_readOr_10 (by decide) (by decide) (by omega) (fun hc => ?_) (fun hc => ?_) <;> first | (exfalso; omega) | skip)
        | refine T_if_eq_t (tgt := 31) (pc := 10) k_M_readOr_10 rfl (by decide) ?_
        | refine T_if_eq_f (tgt := 31) (pc1 := 13) (pc := 10) k_M_readOr_10 rfl rfl (by decide) ?_
        | refine T_if_eq (tgt := 31) (pc1 := 13) (pc := 10) k_M_readOr_10 rfl rfl (fun hc => ?_) (fun hc => ?_))
      · have w4 := hw.2.2.1 (by rw [(sgI_3 hs124).1]; decide)
        have e : J 108 (pS p) = nI 124 := by rw [h1]; exact (sgI_3 hs124).2
        have hs : sgOf T 0 p = some (-20) := by
          unfold sgOf
          rw [if_pos (sgI_3 hs124).1, (sgI_3 hs124).2]
          rfl
        repeat' (first
          | ((first | refine T_aload_n (pc1 := 14) (pc := 13) k_M_readOr_13 rfl rfl ?_ | refine T_aload_nN (pc1 := 14) (pc := 13) k_M_readOr_13 rfl rfl ?_) <;> try (refine T_iconst (v := (nI 1)) (pc1 := 15) (pc := 14) k_M_readOr_14 rfl (by decide) ?_ <;> try ((refine T_cV (As := [_]) (d1 := 4) (pc1 := 18) (pc := 15) k_M_readOr_15 rfl (by show _ < 30 + _ + _ + _; omega) (Nat.le_of_ble_eq_true rfl) rfl o_M_must l_M_249 rfl (by first | exact ga G (by decide) rfl | assumption) rfl (c_M_must1 G okt hP hw (fun J1 hJ1 hJ1P => ?_)) <;> try dsimp only [psh]))))
          | refine T_iconst (v := (nI 1)) (pc1 := 15) (pc := 14) k_M_readOr_14 rfl (by decide) ?_
          | (refine T_cV (As := [_]) (d1 := 4) (pc1 := 18) (pc := 15) k_M_readOr_15 rfl (by show _ < 30 + _ + _ + _; omega) (Nat.le_of_ble_eq_true rfl) rfl o_M_must l_M_249 rfl (by first | exact ga G (by decide) rfl | assumption) rfl (c_M_must1 G okt hP hw (fun J1 hJ1 hJ1P => ?_)) <;> try dsimp only [psh]))
        exact some_ _ hs J1 hJ1 hJ1P
      · refine none_ (sg_none ?_)
        by_cases c3 : pO p = 3
        · refine Or.inr ?_
          have x124 := (sgI_no hs124).resolve_left (fun q => q c3)
          show (if T (pS p) = nI 124 then some (-20 : Int32) else none) = none
          rw [if_neg x124]
        · exact Or.inl c3
  cases f with
  | zero => exfalso; omega
  | succ f =>
    rw [prs, if_pos (by decide)] at hr
    rw [rkm_le (by decide)] at hf
    have nf : 7 * (z - pS p) + rkm 1 < f := by rw [rkm_le (by decide)]; omega
    have h1 := prs_ok okt hk f 1 no op p (Or.inl (by decide)) hw nf hI (by omega)
    first | refine T_aload_n (pc1 := 1) (pc := 0) k_M_readOr_0 rfl rfl ?_ | refine T_aload_nN (pc1 := 1) (pc := 0) k_M_readOr_0 rfl rfl ?_
    refine T_cV (As := []) (d1 := dM 1 no op) (pc1 := 4) (pc := 1) k_M_readOr_1 rfl (by show 30 + _ + _ + _ < 30 + _ + _ + _; omega) (Nat.le_of_ble_eq_true rfl) rfl o_M_readAnd l_M_283 rfl (ga G (by decide) rfl) rfl (IH f (by omega) no op p I _ hno hop hw nf hI hM hP (fun J2 hb hJ2 hJ2P => ?_) (fun J2 hb hJ2 hJ2P => ?_)) <;> try dsimp only [psh]
    · have e9 : 0 + 1 = 1 := rfl
      rw [e9, hb, if_neg (by decide)] at hr
      obtain ⟨a1, a2, a3⟩ := h1
      obtain ⟨b1, b2, b3, b4, b5⟩ := a3 hb
      have b1 := b1 (by decide)
      rw [if_pos (by decide)] at b5
      have a5 := a1.1
      have a6 := a1.2.1
      exact loop f (by omega) _ J2 a1 (by omega) b4 (by omega) (by omega) hJ2P hJ2 hr
    · have e9 : 0 + 1 = 1 := rfl
      rw [e9, hb, if_pos rfl] at hr
      exact bad _ J2 hr.symm hJ2 hJ2P
set_option maxHeartbeats 4000000 in
theorem c_M_readPiece_of {f : Nat} (G : GeoOK g) (hF : g.1.2.2.category = 1) (okt : okTp T z) (hk : key < 3) (IH5 : ∀ f', f' < f → RdC g T z key f' 5) (IH0 : ∀ f', f' < f → RdC g T z key f' 0) : RdC g T z key f 5 := by
  intro no op p I K hno hop hw hf hI hM hP k0 k1
  show Rl (dM 5 no op) M_M_readPiece 0 [some (.ref 101)] [] g I K
  have h96 := okt.1
  have w1 := hw.1
  have w2 := hw.2.1
  obtain ⟨n1, n2⟩ := nx_wf okt w2
  have n3 := n1.1
  have n4 := n1.2.1
  rw [rkm_le (by decide)] at hf
  have nI0 : okI (pC (nx T z p)) (pM (nx T z p)) (pV (nx T z p)) (nnOf key) := hI
  have nM : pM (nx T z p) ≤ pS (nx T z p) := by show pM p ≤ pS (nx T z p); omega
  generalize hr : prs T z key f 5 no op p = r at k0 k1
  cases f with
  | zero => exfalso; omega
  | succ f =>
    rw [prs, if_neg (by decide), if_pos rfl] at hr
    obtain ⟨h1, h2, h3, h4, h5, h6, h7, h8, h9, h10, h11, h12⟩ := id hP
    repeat' (first
      | ((first | refine T_aload_n (pc1 := 1) (pc := 0) k_M_readPiece_0 rfl rfl ?_ | refine T_aload_nN (pc1 := 1) (pc := 0) k_M_readPiece_0 rfl rfl ?_) <;> try (refine T_bipush (v := (nI 33)) (pc1 := 3) (pc := 1) k_M_readPiece_1 rfl (by decide) ?_ <;> try ((refine T_cV (As := [_]) (d1 := 1) (pc1 := 6) (pc := 3) k_M_readPiece_3 rfl (by show _ < 30 + _ + _ + _; omega) (Nat.le_of_ble_eq_true rfl) rfl o_M_isSign l_M_243 rfl (by first | exact ga G (by decide) rfl | assumption) rfl (c_M_isSignO G okt (by decide) hP hw (fun s1 => ?_) (fun s1 => ?_)) <;> try dsimp only [psh]) <;> try ((first | (with_reducible refine T_if_eqN (tgt := 60) (pc1 := 9) (pc := 6) k_M_readPiece_6 (by decide) (by decide) (by omega) (fun hc => ?_) (fun hc => ?_) <;> first | (exfalso; omega) | skip) | refine T_if_eq_t (tgt := 60) (pc := 6) k_M_readPiece_6 rfl (by decide) ?_ | refine T_if_eq_f (tgt := 60) (pc1 := 9) (pc := 6) k_M_readPiece_6 rfl rfl (by decide) ?_ | refine T_if_eq (tgt := 60) (pc1 := 9) (pc := 6) k_M_readPiece_6 rfl rfl (fun hc => ?_) (fun hc => ?_))))))
      | ((first | refine T_aload_n (pc1 := 11) (pc := 10) k_M_readPiece_10 rfl rfl ?_ | refine T_aload_nN (pc1 := 11) (pc := 10) k_M_readPiece_10 rfl rfl ?_) <;> try (refine T_getV (pc1 := 14) (pc := 11) k_M_readPiece_11 rfl f_M_246 rfl (by first | exact ga G (by decide) rfl | assumption) (by first | assumption | (simp (disch := omega) only [pI_eq, pI_row, pI_col, va_up_self, va_up_ne, ne_eq, not_false_eq_true] <;> rfl) | rfl) ?_ <;> try (refine T_bipush (v := (nI 8)) (pc1 := 16) (pc := 14) k_M_readPiece_14 rfl (by decide) ?_ <;> try ((first | (with_reducible refine T_icmp_geN (tgt := 23) (pc1 := 19) (pc := 16) k_M_readPiece_16 (by decide) (by decide) (by omega) (by omega) (fun hc => ?_) (fun hc => ?_) <;> first | (exfalso; omega) | skip) | refine T_icmp_ge_t (tgt := 23) (pc := 16) k_M_readPiece_16 rfl (by decide) ?_ | refine T_icmp_ge_f (tgt := 23) (pc1 := 19) (pc := 16) k_M_readPiece_16 rfl rfl (by decide) ?_ | refine T_icmp_ge (tgt := 23) (pc1 := 19) (pc := 16) k_M_readPiece_16 rfl rfl (fun hc => ?_) (fun hc => ?_))))))
      | (refine T_iconst (v := (nI 1)) (pc1 := 20) (pc := 19) k_M_readPiece_19 rfl (by decide) ?_ <;> try (refine T_goto (tgt := 24) (pc := 20) k_M_readPiece_20 rfl ?_))
      | (refine T_iconst (v := (nI 0)) (pc1 := 24) (pc := 23) k_M_readPiece_23 rfl (by decide) ?_)
      | ((first | refine T_aload_n (pc1 := 28) (pc := 27) k_M_readPiece_27 rfl rfl ?_ | refine T_aload_nN (pc1 := 28) (pc := 27) k_M_readPiece_27 rfl rfl ?_) <;> try (refine T_dup (pc1 := 29) (pc := 28) k_M_readPiece_28 rfl rfl ?_ <;> try (refine T_getV (pc1 := 32) (pc := 29) k_M_readPiece_29 rfl f_M_246 rfl (by first | exact ga G (by decide) rfl | assumption) (by first | assumption | (simp (disch := omega) only [pI_eq, pI_row, pI_col, va_up_self, va_up_ne, ne_eq, not_false_eq_true] <;> rfl) | rfl) ?_ <;> try (refine T_iconst (v := (nI 1)) (pc1 := 33) (pc := 32) k_M_readPiece_32 rfl (by decide) ?_ <;> try ((first | with_reducible refine T_iaddN (pc1 := 34) (pc := 33) k_M_readPiece_33 (by decide) ?_ | refine T_iadd (pc1 := 34) (pc := 33) k_M_readPiece_33 rfl ?_) <;> try (refine T_putI (pc1 := 37) (pc := 34) k_M_readPiece_34 rfl f_M_246 rfl (by first | exact ga G (by decide) rfl | assumption) (by first | rfl | decide | assumption) (by first | rfl | decide | assumption) ?_ <;> try ((first | refine T_aload_n (pc1 := 38) (pc := 37) k_M_readPiece_37 rfl rfl ?_ | refine T_aload_nN (pc1 := 38) (pc := 37) k_M_readPiece_37 rfl rfl ?_))))))))
      | ((first | refine T_aload_n (pc1 := 42) (pc := 41) k_M_readPiece_41 rfl rfl ?_ | refine T_aload_nN (pc1 := 42) (pc := 41) k_M_readPiece_41 rfl rfl ?_) <;> try (refine T_dup (pc1 := 43) (pc := 42) k_M_readPiece_42 rfl rfl ?_ <;> try (refine T_getV (pc1 := 46) (pc := 43) k_M_readPiece_43 rfl f_M_246 rfl (by first | exact ga G (by decide) rfl | assumption) (by first | assumption | (simp (disch := omega) only [pI_eq, pI_row, pI_col, va_up_self, va_up_ne, ne_eq, not_false_eq_true] <;> rfl) | rfl) ?_ <;> try (refine T_iconst (v := (nI 1)) (pc1 := 47) (pc := 46) k_M_readPiece_46 rfl (by decide) ?_ <;> try ((first | with_reducible refine T_isubN (pc1 := 48) (pc := 47) k_M_readPiece_47 (by decide) (by omega) ?_ | refine T_isub (pc1 := 48) (pc := 47) k_M_readPiece_47 rfl ?_) <;> try (refine T_putI (pc1 := 51) (pc := 48) k_M_readPiece_48 rfl f_M_246 rfl (by first | exact ga G (by decide) rfl | assumption) (by first | rfl | decide | assumption) (by first | rfl | decide | assumption) ?_ <;> try ((first | refine T_aload_n (pc1 := 52) (pc := 51) k_M_readPiece_51 rfl rfl ?_ | refine T_aload_nN (pc1 := 52) (pc := 51) k_M_readPiece_51 rfl rfl ?_) <;> try (refine T_bipush (v := (-29)) (pc1 := 54) (pc := 52) k_M_readPiece_52 rfl (by decide) ?_))))))))
      | (refine T_goto (tgt := 128) (pc := 57) k_M_readPiece_57 rfl ?_)
      | ((first | refine T_aload_n (pc1 := 61) (pc := 60) k_M_readPiece_60 rfl rfl ?_ | refine T_aload_nN (pc1 := 61) (pc := 60) k_M_readPiece_60 rfl rfl ?_) <;> try (refine T_bipush (v := (nI 40)) (pc1 := 63) (pc := 61) k_M_readPiece_61 rfl (by decide) ?_ <;> try ((refine T_cV (As := [_]) (d1 := 1) (pc1 := 66) (pc := 63) k_M_readPiece_63 rfl (by show _ < 30 + _ + _ + _; omega) (Nat.le_of_ble_eq_true rfl) rfl o_M_isSign l_M_243 rfl (by first | exact ga G (by decide) rfl | assumption) rfl (c_M_isSignO G okt (by decide) hP hw (fun s2 => ?_) (fun s2 => ?_)) <;> try dsimp only [psh]) <;> try ((first | (with_reducible refine T_if_eqN (tgt := 124) (pc1 := 69) (pc := 66) k_M_readPiece_66 (by decide) (by decide) (by omega) (fun hc => ?_) (fun hc => ?_) <;> first | (exfalso; omega) | skip) | refine T_if_eq_t (tgt := 124) (pc := 66) k_M_readPiece_66 rfl (by decide) ?_ | refine T_if_eq_f (tgt := 124) (pc1 := 69) (pc := 66) k_M_readPiece_66 rfl rfl (by decide) ?_ | refine T_if_eq (tgt := 124) (pc1 := 69) (pc := 66) k_M_readPiece_66 rfl rfl (fun hc => ?_) (fun hc => ?_))))))
      | refine T_bipush (v := (nI 33)) (pc1 := 3) (pc := 1) k_M_readPiece_1 rfl (by decide) ?_
      | (refine T_cV (As := [_]) (d1 := 1) (pc1 := 6) (pc := 3) k_M_readPiece_3 rfl (by show _ < 30 + _ + _ + _; omega) (Nat.le_of_ble_eq_true rfl) rfl o_M_isSign l_M_243 rfl (by first | exact ga G (by decide) rfl | assumption) rfl (c_M_isSignO G okt (by decide) hP hw (fun s1 => ?_) (fun s1 => ?_)) <;> try dsimp only [psh])
      | (with_reducible refine T_if_eqN (tgt := 60) (pc1 := 9) (pc := 6) k_M_readPiece_6 (by decide) (by decide) (by omega) (fun hc => ?_) (fun hc => ?_) <;> first | (exfalso; omega) | skip)
      | refine T_if_eq_t (tgt := 60) (pc := 6) k_M_readPiece_6 rfl (by decide) ?_
      | refine T_if_eq_f (tgt := 60) (pc1 := 9) (pc := 6) k_M_readPiece_6 rfl rfl (by decide) ?_
      | refine T_if_eq (tgt := 60) (pc1 := 9) (pc := 6) k_M_readPiece_6 rfl rfl (fun hc => ?_) (fun hc => ?_)
      | refine T_getV (pc1 := 14) (pc := 11) k_M_readPiece_11 rfl f_M_246 rfl (by first | exact ga G (by decide) rfl | assumption) (by first | assumption | (simp (disch := omega) only [pI_eq, pI_row, pI_col, va_up_self, va_up_ne, ne_eq, not_false_eq_true] <;> rfl) | rfl) ?_
      | refine T_bipush (v := (nI 8)) (pc1 := 16) (pc := 14) k_M_readPiece_14 rfl (by decide) ?_
      | (with_reducible refine T_icmp_geN (tgt := 23) (pc1 := 19) (pc := 16) k_M_readPiece_16 (by decide) (by decide) (by omega) (by omega) (fun hc => ?_) (fun hc => ?_) <;> first | (exfalso; omega) | skip)
      | refine T_icmp_ge_t (tgt := 23) (pc := 16) k_M_readPiece_16 rfl (by decide) ?_
      | refine T_icmp_ge_f (tgt := 23) (pc1 := 19) (pc := 16) k_M_readPiece_16 rfl rfl (by decide) ?_
      | refine T_icmp_ge (tgt := 23) (pc1 := 19) (pc := 16) k_M_readPiece_16 rfl rfl (fun hc => ?_) (fun hc => ?_)
      | refine T_goto (tgt := 24) (pc := 20) k_M_readPiece_20 rfl ?_
      | refine T_dup (pc1 := 29) (pc := 28) k_M_readPiece_28 rfl rfl ?_
      | refine T_getV (pc1 := 32) (pc := 29) k_M_readPiece_29 rfl f_M_246 rfl (by first | exact ga G (by decide) rfl | assumption) (by first | assumption | (simp (disch := omega) only [pI_eq, pI_row, pI_col, va_up_self, va_up_ne, ne_eq, not_false_eq_true] <;> rfl) | rfl) ?_
      | refine T_iconst (v := (nI 1)) (pc1 := 33) (pc := 32) k_M_readPiece_32 rfl (by decide) ?_
      | with_reducible refine T_iaddN (pc1 := 34) (pc := 33) k_M_readPiece_33 (by decide) ?_
      | refine T_iadd (pc1 := 34) (pc := 33) k_M_readPiece_33 rfl ?_
      | refine T_putI (pc1 := 37) (pc := 34) k_M_readPiece_34 rfl f_M_246 rfl (by first | exact ga G (by decide) rfl | assumption) (by first | rfl | decide | assumption) (by first | rfl | decide | assumption) ?_
      | refine T_aload_n (pc1 := 38) (pc := 37) k_M_readPiece_37 rfl rfl ?_
      | refine T_aload_nN (pc1 := 38) (pc := 37) k_M_readPiece_37 rfl rfl ?_
      | refine T_dup (pc1 := 43) (pc := 42) k_M_readPiece_42 rfl rfl ?_
      | refine T_getV (pc1 := 46) (pc := 43) k_M_readPiece_43 rfl f_M_246 rfl (by first | exact ga G (by decide) rfl | assumption) (by first | assumption | (simp (disch := omega) only [pI_eq, pI_row, pI_col, va_up_self, va_up_ne, ne_eq, not_false_eq_true] <;> rfl) | rfl) ?_
      | refine T_iconst (v := (nI 1)) (pc1 := 47) (pc := 46) k_M_readPiece_46 rfl (by decide) ?_
      | with_reducible refine T_isubN (pc1 := 48) (pc := 47) k_M_readPiece_47 (by decide) (by omega) ?_
      | refine T_isub (pc1 := 48) (pc := 47) k_M_readPiece_47 rfl ?_
      | refine T_putI (pc1 := 51) (pc := 48) k_M_readPiece_48 rfl f_M_246 rfl (by first | exact ga G (by decide) rfl | assumption) (by first | rfl | decide | assumption) (by first | rfl | decide | assumption) ?_
      | refine T_aload_n (pc1 := 52) (pc := 51) k_M_readPiece_51 rfl rfl ?_
      | refine T_aload_nN (pc1 := 52) (pc := 51) k_M_readPiece_51 rfl rfl ?_
      | refine T_bipush (v := (-29)) (pc1 := 54) (pc := 52) k_M_readPiece_52 rfl (by decide) ?_
      | refine T_bipush (v := (nI 40)) (pc1 := 63) (pc := 61) k_M_readPiece_61 rfl (by decide) ?_
      | (refine T_cV (As := [_]) (d1 := 1) (pc1 := 66) (pc := 63) k_M_readPiece_63 rfl (by show _ < 30 + _ + _ + _; omega) (Nat.le_of_ble_eq_true rfl) rfl o_M_isSign l_M_243 rfl (by first | exact ga G (by decide) rfl | assumption) rfl (c_M_isSignO G okt (by decide) hP hw (fun s2 => ?_) (fun s2 => ?_)) <;> try dsimp only [psh])
      | (with_reducible refine T_if_eqN (tgt := 124) (pc1 := 69) (pc := 66) k_M_readPiece_66 (by decide) (by decide) (by omega) (fun hc => ?_) (fun hc => ?_) <;> first | (exfalso; omega) | skip)
      | refine T_if_eq_t (tgt := 124) (pc := 66) k_M_readPiece_66 rfl (by decide) ?_
      | refine T_if_eq_f (tgt := 124) (pc1 := 69) (pc := 66) k_M_readPiece_66 rfl rfl (by decide) ?_
      | refine T_if_eq (tgt := 124) (pc1 := 69) (pc := 66) k_M_readPiece_66 rfl rfl (fun hc => ?_) (fun hc => ?_))
    · rw [if_pos s1] at hr
      have w4 := hw.2.2.1 (by rw [(sgI_3 s1).1]; decide)
      by_cases hn8 : no < 8
      · rw [if_pos hn8] at hr
        have nf : 7 * (z - pS (nx T z p)) + rkm 5 < f := by rw [rkm_le (by decide)]; omega
        have q1 := prs_ok okt hk f 5 (no + 1) op (nx T z p) (Or.inl (by decide)) n1 nf nI0 (by omega)
        repeat' (first
          | ((first | refine T_aload_n (pc1 := 10) (pc := 9) k_M_readPiece_9 rfl rfl ?_ | refine T_aload_nN (pc1 := 10) (pc := 9) k_M_readPiece_9 rfl rfl ?_) <;> try ((first | refine T_aload_n (pc1 := 11) (pc := 10) k_M_readPiece_10 rfl rfl ?_ | refine T_aload_nN (pc1 := 11) (pc := 10) k_M_readPiece_10 rfl rfl ?_) <;> try (refine T_getV (pc1 := 14) (pc := 11) k_M_readPiece_11 rfl f_M_246 rfl (by first | exact ga G (by decide) rfl | assumption) (by first | assumption | (simp (disch := omega) only [pI_eq, pI_row, pI_col, va_up_self, va_up_ne, ne_eq, not_false_eq_true] <;> rfl) | rfl) ?_ <;> try (refine T_bipush (v := (nI 8)) (pc1 := 16) (pc := 14) k_M_readPiece_14 rfl (by decide) ?_ <;> try ((first | (with_reducible refine T_icmp_geN (tgt := 23) (pc1 := 19) (pc := 16) k_M_readPiece_16 (by decide) (by decide) (by omega) (by omega) (fun hc => ?_) (fun hc => ?_) <;> first | (exfalso; omega) | skip) | refine T_icmp_ge_t (tgt := 23) (pc := 16) k_M_readPiece_16 rfl (by decide) ?_ | refine T_icmp_ge_f (tgt := 23) (pc1 := 19) (pc := 16) k_M_readPiece_16 rfl rfl (by decide) ?_ | refine T_icmp_ge (tgt := 23) (pc1 := 19) (pc := 16) k_M_readPiece_16 rfl rfl (fun hc => ?_) (fun hc => ?_)))))))
          | (refine T_iconst (v := (nI 1)) (pc1 := 20) (pc := 19) k_M_readPiece_19 rfl (by decide) ?_ <;> try (refine T_goto (tgt := 24) (pc := 20) k_M_readPiece_20 rfl ?_))
          | (refine T_iconst (v := (nI 0)) (pc1 := 24) (pc := 23) k_M_readPiece_23 rfl (by decide) ?_)
          | ((refine T_cV (As := [_]) (d1 := 4) (pc1 := 27) (pc := 24) k_M_readPiece_24 rfl (by show _ < 30 + _ + _ + _; omega) (Nat.le_of_ble_eq_true rfl) rfl o_M_must l_M_249 rfl (by first | exact ga G (by decide) rfl | assumption) rfl (c_M_must1 G okt hP hw (fun J1 hJ1 hJ1P => ?_)) <;> try dsimp only [psh]))
          | refine T_aload_n (pc1 := 11) (pc := 10) k_M_readPiece_10 rfl rfl ?_
          | refine T_aload_nN (pc1 := 11) (pc := 10) k_M_readPiece_10 rfl rfl ?_
          | refine T_getV (pc1 := 14) (pc := 11) k_M_readPiece_11 rfl f_M_246 rfl (by first | exact ga G (by decide) rfl | assumption) (by first | assumption | (simp (disch := omega) only [pI_eq, pI_row, pI_col, va_up_self, va_up_ne, ne_eq, not_false_eq_true] <;> rfl) | rfl) ?_
          | refine T_bipush (v := (nI 8)) (pc1 := 16) (pc := 14) k_M_readPiece_14 rfl (by decide) ?_
          | (with_reducible refine T_icmp_geN (tgt := 23) (pc1 := 19) (pc := 16) k_M_readPiece_16 (by decide) (by decide) (by omega) (by omega) (fun hc => ?_) (fun hc => ?_) <;> first | (exfalso; omega) | skip)
          | refine T_icmp_ge_t (tgt := 23) (pc := 16) k_M_readPiece_16 rfl (by decide) ?_
          | refine T_icmp_ge_f (tgt := 23) (pc1 := 19) (pc := 16) k_M_readPiece_16 rfl rfl (by decide) ?_
          | refine T_icmp_ge (tgt := 23) (pc1 := 19) (pc := 16) k_M_readPiece_16 rfl rfl (fun hc => ?_) (fun hc => ?_)
          | refine T_goto (tgt := 24) (pc := 20) k_M_readPiece_20 rfl ?_)
        all_goals try (exfalso; omega)
        have h9b := hJ1P.2.2.2.2.2.2.2.2.1
        repeat' (first
          | ((first | refine T_aload_n (pc1 := 28) (pc := 27) k_M_readPiece_27 rfl rfl ?_ | refine T_aload_nN (pc1 := 28) (pc := 27) k_M_readPiece_27 rfl rfl ?_) <;> try (refine T_dup (pc1 := 29) (pc := 28) k_M_readPiece_28 rfl rfl ?_ <;> try (refine T_getV (pc1 := 32) (pc := 29) k_M_readPiece_29 rfl f_M_246 rfl (by first | exact ga G (by decide) rfl | assumption) (by first | assumption | (simp (disch := omega) only [pI_eq, pI_row, pI_col, va_up_self, va_up_ne, ne_eq, not_false_eq_true] <;> rfl) | rfl) ?_ <;> try (refine T_iconst (v := (nI 1)) (pc1 := 33) (pc := 32) k_M_readPiece_32 rfl (by decide) ?_ <;> try ((first | with_reducible refine T_iaddN (pc1 := 34) (pc := 33) k_M_readPiece_33 (by decide) ?_ | refine T_iadd (pc1 := 34) (pc := 33) k_M_readPiece_33 rfl ?_) <;> try (refine T_putI (pc1 := 37) (pc := 34) k_M_readPiece_34 rfl f_M_246 rfl (by first | exact ga G (by decide) rfl | assumption) (by first | rfl | decide | assumption) (by first | rfl | decide | assumption) ?_ <;> try ((first | refine T_aload_n (pc1 := 38) (pc := 37) k_M_readPiece_37 rfl rfl ?_ | refine T_aload_nN (pc1 := 38) (pc := 37) k_M_readPiece_37 rfl rfl ?_))))))))
          | refine T_dup (pc1 := 29) (pc := 28) k_M_readPiece_28 rfl rfl ?_
          | refine T_getV (pc1 := 32) (pc := 29) k_M_readPiece_29 rfl f_M_246 rfl (by first | exact ga G (by decide) rfl | assumption) (by first | assumption | (simp (disch := omega) only [pI_eq, pI_row, pI_col, va_up_self, va_up_ne, ne_eq, not_false_eq_true] <;> rfl) | rfl) ?_
          | refine T_iconst (v := (nI 1)) (pc1 := 33) (pc := 32) k_M_readPiece_32 rfl (by decide) ?_
          | with_reducible refine T_iaddN (pc1 := 34) (pc := 33) k_M_readPiece_33 (by decide) ?_
          | refine T_iadd (pc1 := 34) (pc := 33) k_M_readPiece_33 rfl ?_
          | refine T_putI (pc1 := 37) (pc := 34) k_M_readPiece_34 rfl f_M_246 rfl (by first | exact ga G (by decide) rfl | assumption) (by first | rfl | decide | assumption) (by first | rfl | decide | assumption) ?_
          | refine T_aload_n (pc1 := 38) (pc := 37) k_M_readPiece_37 rfl rfl ?_
          | refine T_aload_nN (pc1 := 38) (pc := 37) k_M_readPiece_37 rfl rfl ?_)
        refine T_cV (As := []) (d1 := dM 5 (no + 1) op) (pc1 := 41) (pc := 38) k_M_readPiece_38 rfl (by show 30 + _ + _ + _ < 30 + _ + _ + _; omega) (Nat.le_of_ble_eq_true rfl) rfl o_M_readPiece l_M_253 rfl (ga G (by decide) rfl) rfl (IH5 f (by omega) (no + 1) op (nx T z p) _ _ (by omega) hop n1 nf nI0 nM (PMo_no hJ1P) (fun J2 hb hJ2 hJ2P => ?_) (fun J2 hb hJ2 hJ2P => ?_)) <;> try dsimp only [psh]
        · rw [hb, if_neg (by decide)] at hr
          have g9 := hJ2P.2.2.2.2.2.2.2.2.1
          have sn : PMo T z key no op (prs T z key f 5 (no + 1) op (nx T z p)).2 (pI J2 101 17 (nI (no + 1 - 1))) := PMo_no hJ2P
          obtain ⟨a1, a2, a3⟩ := q1
          obtain ⟨b1, b2, b3, b4, b5⟩ := a3 hb
          have b3 : pM (prs T z key f 5 (no + 1) op (nx T z p)).2 + pS (nx T z p) ≤ pM p + pS (prs T z key f 5 (no + 1) op (nx T z p)).2 := b3
          have a5 := a1.1
          have a6 := a1.2.1
          repeat' (first
            | ((first | refine T_aload_n (pc1 := 42) (pc := 41) k_M_readPiece_41 rfl rfl ?_ | refine T_aload_nN (pc1 := 42) (pc := 41) k_M_readPiece_41 rfl rfl ?_) <;> try (refine T_dup (pc1 := 43) (pc := 42) k_M_readPiece_42 rfl rfl ?_ <;> try (refine T_getV (pc1 := 46) (pc := 43) k_M_readPiece_43 rfl f_M_246 rfl (by first | exact ga G (by decide) rfl | assumption) (by first | assumption | (simp (disch := omega) only [pI_eq, pI_row, pI_col, va_up_self, va_up_ne, ne_eq, not_false_eq_true] <;> rfl) | rfl) ?_ <;> try (refine T_iconst (v := (nI 1)) (pc1 := 47) (pc := 46) k_M_readPiece_46 rfl (by decide) ?_ <;> try ((first | with_reducible refine T_isubN (pc1 := 48) (pc := 47) k_M_readPiece_47 (by decide) (by omega) ?_ | refine T_isub (pc1 := 48) (pc := 47) k_M_readPiece_47 rfl ?_) <;> try (refine T_putI (pc1 := 51) (pc := 48) k_M_readPiece_48 rfl f_M_246 rfl (by first | exact ga G (by decide) rfl | assumption) (by first | rfl | decide | assumption) (by first | rfl | decide | assumption) ?_ <;> try ((first | refine T_aload_n (pc1 := 52) (pc := 51) k_M_readPiece_51 rfl rfl ?_ | refine T_aload_nN (pc1 := 52) (pc := 51) k_M_readPiece_51 rfl rfl ?_) <;> try (refine T_bipush (v := (-29)) (pc1 := 54) (pc := 52) k_M_readPiece_52 rfl (by decide) ?_ <;> try ((refine T_cV (As := [_]) (d1 := 1) (pc1 := 57) (pc := 54) k_M_readPiece_54 rfl (by show _ < 30 + _ + _ + _; omega) (Nat.le_of_ble_eq_true rfl) rfl o_M_step l_M_256 rfl (by first | exact ga G (by decide) rfl | assumption) rfl (c_M_stepO G sn (by omega) (fun J3 hJ3 hJ3P => ?_)) <;> try dsimp only [psh]) <;> try (refine T_goto (tgt := 128) (pc := 57) k_M_readPiece_57 rfl ?_))))))))))
            | ((first | refine T_aload_n (pc1 := 61) (pc := 60) k_M_readPiece_60 rfl rfl ?_ | refine T_aload_nN (pc1 := 61) (pc := 60) k_M_readPiece_60 rfl rfl ?_) <;> try (refine T_bipush (v := (nI 40)) (pc1 := 63) (pc := 61) k_M_readPiece_61 rfl (by decide) ?_ <;> try ((refine T_cV (As := [_]) (d1 := 1) (pc1 := 66) (pc := 63) k_M_readPiece_63 rfl (by show _ < 30 + _ + _ + _; omega) (Nat.le_of_ble_eq_true rfl) rfl o_M_isSign l_M_243 rfl (by first | exact ga G (by decide) rfl | assumption) rfl (c_M_isSignO G okt (by decide) hP hw (fun s2 => ?_) (fun s2 => ?_)) <;> try dsimp only [psh]) <;> try ((first | (with_reducible refine T_if_eqN (tgt := 124) (pc1 := 69) (pc := 66) k_M_readPiece_66 (by decide) (by decide) (by omega) (fun hc => ?_) (fun hc => ?_) <;> first | (exfalso; omega) | skip) | refine T_if_eq_t (tgt := 124) (pc := 66) k_M_readPiece_66 rfl (by decide) ?_ | refine T_if_eq_f (tgt := 124) (pc1 := 69) (pc := 66) k_M_readPiece_66 rfl rfl (by decide) ?_ | refine T_if_eq (tgt := 124) (pc1 := 69) (pc := 66) k_M_readPiece_66 rfl rfl (fun hc => ?_) (fun hc => ?_))))))
            | ((first | refine T_aload_n (pc1 := 70) (pc := 69) k_M_readPiece_69 rfl rfl ?_ | refine T_aload_nN (pc1 := 70) (pc := 69) k_M_readPiece_69 rfl rfl ?_) <;> try ((first | refine T_aload_n (pc1 := 71) (pc := 70) k_M_readPiece_70 rfl rfl ?_ | refine T_aload_nN (pc1 := 71) (pc := 70) k_M_readPiece_70 rfl rfl ?_) <;> try (refine T_getV (pc1 := 74) (pc := 71) k_M_readPiece_71 rfl f_M_259 rfl (by first | exact ga G (by decide) rfl | assumption) (by first | assumption | (simp (disch := omega) only [pI_eq, pI_row, pI_col, va_up_self, va_up_ne, ne_eq, not_false_eq_true] <;> rfl) | rfl) ?_ <;> try (refine T_bipush (v := (nI 8)) (pc1 := 76) (pc := 74) k_M_readPiece_74 rfl (by decide) ?_ <;> try ((first | (with_reducible refine T_icmp_geN (tgt := 83) (pc1 := 79) (pc := 76) k_M_readPiece_76 (by decide) (by decide) (by omega) (by omega) (fun hc => ?_) (fun hc => ?_) <;> first | (exfalso; omega) | skip) | refine T_icmp_ge_t (tgt := 83) (pc := 76) k_M_readPiece_76 rfl (by decide) ?_ | refine T_icmp_ge_f (tgt := 83) (pc1 := 79) (pc := 76) k_M_readPiece_76 rfl rfl (by decide) ?_ | refine T_icmp_ge (tgt := 83) (pc1 := 79) (pc := 76) k_M_readPiece_76 rfl rfl (fun hc => ?_) (fun hc => ?_)))))))
            | (refine T_iconst (v := (nI 1)) (pc1 := 80) (pc := 79) k_M_readPiece_79 rfl (by decide) ?_ <;> try (refine T_goto (tgt := 84) (pc := 80) k_M_readPiece_80 rfl ?_))
            | (refine T_iconst (v := (nI 0)) (pc1 := 84) (pc := 83) k_M_readPiece_83 rfl (by decide) ?_)
            | ((first | refine T_aload_n (pc1 := 88) (pc := 87) k_M_readPiece_87 rfl rfl ?_ | refine T_aload_nN (pc1 := 88) (pc := 87) k_M_readPiece_87 rfl rfl ?_) <;> try (refine T_dup (pc1 := 89) (pc := 88) k_M_readPiece_88 rfl rfl ?_ <;> try (refine T_getV (pc1 := 92) (pc := 89) k_M_readPiece_89 rfl f_M_259 rfl (by first | exact ga G (by decide) rfl | assumption) (by first | assumption | (simp (disch := omega) only [pI_eq, pI_row, pI_col, va_up_self, va_up_ne, ne_eq, not_false_eq_true] <;> rfl) | rfl) ?_ <;> try (refine T_iconst (v := (nI 1)) (pc1 := 93) (pc := 92) k_M_readPiece_92 rfl (by decide) ?_ <;> try ((first | with_reducible refine T_iaddN (pc1 := 94) (pc := 93) k_M_readPiece_93 (by decide) ?_ | refine T_iadd (pc1 := 94) (pc := 93) k_M_readPiece_93 rfl ?_) <;> try (refine T_putI (pc1 := 97) (pc := 94) k_M_readPiece_94 rfl f_M_259 rfl (by first | exact ga G (by decide) rfl | assumption) (by first | rfl | decide | assumption) (by first | rfl | decide | assumption) ?_ <;> try ((first | refine T_aload_n (pc1 := 98) (pc := 97) k_M_readPiece_97 rfl rfl ?_ | refine T_aload_nN (pc1 := 98) (pc := 97) k_M_readPiece_97 rfl rfl ?_))))))))
            | ((first | refine T_aload_n (pc1 := 102) (pc := 101) k_M_readPiece_101 rfl rfl ?_ | refine T_aload_nN (pc1 := 102) (pc := 101) k_M_readPiece_101 rfl rfl ?_) <;> try ((first | refine T_aload_n (pc1 := 103) (pc := 102) k_M_readPiece_102 rfl rfl ?_ | refine T_aload_nN (pc1 := 103) (pc := 102) k_M_readPiece_102 rfl rfl ?_) <;> try (refine T_bipush (v := (nI 41)) (pc1 := 105) (pc := 103) k_M_readPiece_103 rfl (by decide) ?_)))
            | ((first | refine T_aload_n (pc1 := 112) (pc := 111) k_M_readPiece_111 rfl rfl ?_ | refine T_aload_nN (pc1 := 112) (pc := 111) k_M_readPiece_111 rfl rfl ?_) <;> try (refine T_dup (pc1 := 113) (pc := 112) k_M_readPiece_112 rfl rfl ?_ <;> try (refine T_getV (pc1 := 116) (pc := 113) k_M_readPiece_113 rfl f_M_259 rfl (by first | exact ga G (by decide) rfl | assumption) (by first | assumption | (simp (disch := omega) only [pI_eq, pI_row, pI_col, va_up_self, va_up_ne, ne_eq, not_false_eq_true] <;> rfl) | rfl) ?_ <;> try (refine T_iconst (v := (nI 1)) (pc1 := 117) (pc := 116) k_M_readPiece_116 rfl (by decide) ?_ <;> try ((first | with_reducible refine T_isubN (pc1 := 118) (pc := 117) k_M_readPiece_117 (by decide) (by omega) ?_ | refine T_isub (pc1 := 118) (pc := 117) k_M_readPiece_117 rfl ?_) <;> try (refine T_putI (pc1 := 121) (pc := 118) k_M_readPiece_118 rfl f_M_259 rfl (by first | exact ga G (by decide) rfl | assumption) (by first | rfl | decide | assumption) (by first | rfl | decide | assumption) ?_ <;> try (refine T_goto (tgt := 128) (pc := 121) k_M_readPiece_121 rfl ?_)))))))
            | ((first | refine T_aload_n (pc1 := 125) (pc := 124) k_M_readPiece_124 rfl rfl ?_ | refine T_aload_nN (pc1 := 125) (pc := 124) k_M_readPiece_124 rfl rfl ?_) <;> try ((refine T_cV (As := []) (d1 := 5) (pc1 := 128) (pc := 125) k_M_readPiece_125 rfl (by show _ < 30 + _ + _ + _; omega) (Nat.le_of_ble_eq_true rfl) rfl o_M_readLeaf l_M_265 rfl (by first | exact ga G (by decide) rfl | assumption) rfl (c_M_readLeafW G hF okt hk h hw (fun J hJ hJP => ?_)) <;> try dsimp only [psh])))
            | (refine T_retV (pc := 128) k_M_readPiece_128 rfl ?_)
            | refine T_dup (pc1 := 43) (pc := 42) k_M_readPiece_42 rfl rfl ?_
            | refine T_getV (pc1 := 46) (pc := 43) k_M_readPiece_43 rfl f_M_246 rfl (by first | exact ga G (by decide) rfl | assumption) (by first | assumption | (simp (disch := omega) only [pI_eq, pI_row, pI_col, va_up_self, va_up_ne, ne_eq, not_false_eq_true] <;> rfl) | rfl) ?_
            | refine T_iconst (v := (nI 1)) (pc1 := 47) (pc := 46) k_M_readPiece_46 rfl (by decide) ?_
            | with_reducible refine T_isubN (pc1 := 48) (pc := 47) k_M_readPiece_47 (by decide) (by omega) ?_
            | refine T_isub (pc1 := 48) (pc := 47) k_M_readPiece_47 rfl ?_
            | refine T_putI (pc1 := 51) (pc := 48) k_M_readPiece_48 rfl f_M_246 rfl (by first | exact ga G (by decide) rfl | assumption) (by first | rfl | decide | assumption) (by first | rfl | decide | assumption) ?_
            | refine T_aload_n (pc1 := 52) (pc := 51) k_M_readPiece_51 rfl rfl ?_
            | refine T_aload_nN (pc1 := 52) (pc := 51) k_M_readPiece_51 rfl rfl ?_
            | refine T_bipush (v := (-29)) (pc1 := 54) (pc := 52) k_M_readPiece_52 rfl (by decide) ?_
            | (refine T_cV (As := [_]) (d1 := 1) (pc1 := 57) (pc := 54) k_M_readPiece_54 rfl (by show _ < 30 + _ + _ + _; omega) (Nat.le_of_ble_eq_true rfl) rfl o_M_step l_M_256 rfl (by first | exact ga G (by decide) rfl | assumption) rfl (c_M_stepO G sn (by omega) (fun J3 hJ3 hJ3P => ?_)) <;> try dsimp only [psh])
            | refine T_goto (tgt := 128) (pc := 57) k_M_readPiece_57 rfl ?_
            | refine T_bipush (v := (nI 40)) (pc1 := 63) (pc := 61) k_M_readPiece_61 rfl (by decide) ?_
            | (refine T_cV (As := [_]) (d1 := 1) (pc1 := 66) (pc := 63) k_M_readPiece_63 rfl (by show _ < 30 + _ + _ + _; omega) (Nat.le_of_ble_eq_true rfl) rfl o_M_isSign l_M_243 rfl (by first | exact ga G (by decide) rfl | assumption) rfl (c_M_isSignO G okt (by decide) hP hw (fun s2 => ?_) (fun s2 => ?_)) <;> try dsimp only [psh])
            | (with_reducible refine T_if_eqN (tgt := 124) (pc1 := 69) (pc := 66) k_M_readPiece_66 (by decide) (by decide) (by omega) (fun hc => ?_) (fun hc => ?_) <;> first | (exfalso; omega) | skip)
            | refine T_if_eq_t (tgt := 124) (pc := 66) k_M_readPiece_66 rfl (by decide) ?_
            | refine T_if_eq_f (tgt := 124) (pc1 := 69) (pc := 66) k_M_readPiece_66 rfl rfl (by decide) ?_
            | refine T_if_eq (tgt := 124) (pc1 := 69) (pc := 66) k_M_readPiece_66 rfl rfl (fun hc => ?_) (fun hc => ?_)
            | refine T_aload_n (pc1 := 71) (pc := 70) k_M_readPiece_70 rfl rfl ?_
            | refine T_aload_nN (pc1 := 71) (pc := 70) k_M_readPiece_70 rfl rfl ?_
            | refine T_getV (pc1 := 74) (pc := 71) k_M_readPiece_71 rfl f_M_259 rfl (by first | exact ga G (by decide) rfl | assumption) (by first | assumption | (simp (disch := omega) only [pI_eq, pI_row, pI_col, va_up_self, va_up_ne, ne_eq, not_false_eq_true] <;> rfl) | rfl) ?_
            | refine T_bipush (v := (nI 8)) (pc1 := 76) (pc := 74) k_M_readPiece_74 rfl (by decide) ?_
            | (with_reducible refine T_icmp_geN (tgt := 83) (pc1 := 79) (pc := 76) k_M_readPiece_76 (by decide) (by decide) (by omega) (by omega) (fun hc => ?_) (fun hc => ?_) <;> first | (exfalso; omega) | skip)
            | refine T_icmp_ge_t (tgt := 83) (pc := 76) k_M_readPiece_76 rfl (by decide) ?_
            | refine T_icmp_ge_f (tgt := 83) (pc1 := 79) (pc := 76) k_M_readPiece_76 rfl rfl (by decide) ?_
            | refine T_icmp_ge (tgt := 83) (pc1 := 79) (pc := 76) k_M_readPiece_76 rfl rfl (fun hc => ?_) (fun hc => ?_)
            | refine T_goto (tgt := 84) (pc := 80) k_M_readPiece_80 rfl ?_
            | refine T_dup (pc1 := 89) (pc := 88) k_M_readPiece_88 rfl rfl ?_
            | refine T_getV (pc1 := 92) (pc := 89) k_M_readPiece_89 rfl f_M_259 rfl (by first | exact ga G (by decide) rfl | assumption) (by first | assumption | (simp (disch := omega) only [pI_eq, pI_row, pI_col, va_up_self, va_up_ne, ne_eq, not_false_eq_true] <;> rfl) | rfl) ?_
            | refine T_iconst (v := (nI 1)) (pc1 := 93) (pc := 92) k_M_readPiece_92 rfl (by decide) ?_
            | with_reducible refine T_iaddN (pc1 := 94) (pc := 93) k_M_readPiece_93 (by decide) ?_
            | refine T_iadd (pc1 := 94) (pc := 93) k_M_readPiece_93 rfl ?_
            | refine T_putI (pc1 := 97) (pc := 94) k_M_readPiece_94 rfl f_M_259 rfl (by first | exact ga G (by decide) rfl | assumption) (by first | rfl | decide | assumption) (by first | rfl | decide | assumption) ?_
            | refine T_aload_n (pc1 := 98) (pc := 97) k_M_readPiece_97 rfl rfl ?_
            | refine T_aload_nN (pc1 := 98) (pc := 97) k_M_readPiece_97 rfl rfl ?_
            | refine T_aload_n (pc1 := 103) (pc := 102) k_M_readPiece_102 rfl rfl ?_
            | refine T_aload_nN (pc1 := 103) (pc := 102) k_M_readPiece_102 rfl rfl ?_
            | refine T_bipush (v := (nI 41)) (pc1 := 105) (pc := 103) k_M_readPiece_103 rfl (by decide) ?_
            | refine T_dup (pc1 := 113) (pc := 112) k_M_readPiece_112 rfl rfl ?_
            | refine T_getV (pc1 := 116) (pc := 113) k_M_readPiece_113 rfl f_M_259 rfl (by first | exact ga G (by decide) rfl | assumption) (by first | assumption | (simp (disch := omega) only [pI_eq, pI_row, pI_col, va_up_self, va_up_ne, ne_eq, not_false_eq_true] <;> rfl) | rfl) ?_
            | refine T_iconst (v := (nI 1)) (pc1 := 117) (pc := 116) k_M_readPiece_116 rfl (by decide) ?_
            | with_reducible refine T_isubN (pc1 := 118) (pc := 117) k_M_readPiece_117 (by decide) (by omega) ?_
            | refine T_isub (pc1 := 118) (pc := 117) k_M_readPiece_117 rfl ?_
            | refine T_putI (pc1 := 121) (pc := 118) k_M_readPiece_118 rfl f_M_259 rfl (by first | exact ga G (by decide) rfl | assumption) (by first | rfl | decide | assumption) (by first | rfl | decide | assumption) ?_
            | refine T_goto (tgt := 128) (pc := 121) k_M_readPiece_121 rfl ?_
            | (refine T_cV (As := []) (d1 := 5) (pc1 := 128) (pc := 125) k_M_readPiece_125 rfl (by show _ < 30 + _ + _ + _; omega) (Nat.le_of_ble_eq_true rfl) rfl o_M_readLeaf l_M_265 rfl (by first | exact ga G (by decide) rfl | assumption) rfl (c_M_readLeafW G hF okt hk h hw (fun J hJ hJP => ?_)) <;> try dsimp only [psh]))
          subst hr
          exact k0 J3 rfl (FrM_tr hJ1 (FrM_tr (FrM_tr (FrM_p FrM_rf (by decide)) hJ2) (FrM_tr (FrM_p FrM_rf (by decide)) hJ3))) hJ3P
        · rw [hb, if_pos rfl] at hr
          repeat' (first
            | ((first | refine T_aload_n (pc1 := 42) (pc := 41) k_M_readPiece_41 rfl rfl ?_ | refine T_aload_nN (pc1 := 42) (pc := 41) k_M_readPiece_41 rfl rfl ?_) <;> try (refine T_dup (pc1 := 43) (pc := 42) k_M_readPiece_42 rfl rfl ?_ <;> try (refine T_getV (pc1 := 46) (pc := 43) k_M_readPiece_43 rfl f_M_246 rfl (by first | exact ga G (by decide) rfl | assumption) (by first | assumption | (simp (disch := omega) only [pI_eq, pI_row, pI_col, va_up_self, va_up_ne, ne_eq, not_false_eq_true] <;> rfl) | rfl) ?_ <;> try (refine T_iconst (v := (nI 1)) (pc1 := 47) (pc := 46) k_M_readPiece_46 rfl (by decide) ?_ <;> try ((first | with_reducible refine T_isubN (pc1 := 48) (pc := 47) k_M_readPiece_47 (by decide) (by omega) ?_ | refine T_isub (pc1 := 48) (pc := 47) k_M_readPiece_47 rfl ?_) <;> try (refine T_putI (pc1 := 51) (pc := 48) k_M_readPiece_48 rfl f_M_246 rfl (by first | exact ga G (by decide) rfl | assumption) (by first | rfl | decide | assumption) (by first | rfl | decide | assumption) ?_ <;> try ((first | refine T_aload_n (pc1 := 52) (pc := 51) k_M_readPiece_51 rfl rfl ?_ | refine T_aload_nN (pc1 := 52) (pc := 51) k_M_readPiece_51 rfl rfl ?_) <;> try (refine T_bipush (v := (-29)) (pc1 := 54) (pc := 52) k_M_readPiece_52 rfl (by decide) ?_ <;> try ((refine T_cV (As := [_]) (d1 := 1) (pc1 := 57) (pc := 54) k_M_readPiece_54 rfl (by show _ < 30 + _ + _ + _; omega) (Nat.le_of_ble_eq_true rfl) rfl o_M_step l_M_256 rfl (by first | exact ga G (by decide) rfl | assumption) rfl (c_M_stepW G (PMw_p hJ2P (by decide)) ?_) <;> try dsimp only [psh]) <;> try (refine T_goto (tgt := 128) (pc := 57) k_M_readPiece_57 rfl ?_))))))))))
            | ((first | refine T_aload_n (pc1 := 61) (pc := 60) k_M_readPiece_60 rfl rfl ?_ | refine T_aload_nN (pc1 := 61) (pc := 60) k_M_readPiece_60 rfl rfl ?_) <;> try (refine T_bipush (v := (nI 40)) (pc1 := 63) (pc := 61) k_M_readPiece_61 rfl (by decide) ?_ <;> try ((refine T_cV (As := [_]) (d1 := 1) (pc1 := 66) (pc := 63) k_M_readPiece_63 rfl (by show _ < 30 + _ + _ + _; omega) (Nat.le_of_ble_eq_true rfl) rfl o_M_isSign l_M_243 rfl (by first | exact ga G (by decide) rfl | assumption) rfl (c_M_isSignO G okt (by decide) hP hw (fun s2 => ?_) (fun s2 => ?_)) <;> try dsimp only [psh]) <;> try ((first | (with_reducible refine T_if_eqN (tgt := 124) (pc1 := 69) (pc := 66) k_M_readPiece_66 (by decide) (by decide) (by omega) (fun hc => ?_) (fun hc => ?_) <;> first | (exfalso; omega) | skip) | refine T_if_eq_t (tgt := 124) (pc := 66) k_M_readPiece_66 rfl (by decide) ?_ | refine T_if_eq_f (tgt := 124) (pc1 := 69) (pc := 66) k_M_readPiece_66 rfl rfl (by decide) ?_ | refine T_if_eq (tgt := 124) (pc1 := 69) (pc := 66) k_M_readPiece_66 rfl rfl (fun hc => ?_) (fun hc => ?_))))))
            | ((first | refine T_aload_n (pc1 := 70) (pc := 69) k_M_readPiece_69 rfl rfl ?_ | refine T_aload_nN (pc1 := 70) (pc := 69) k_M_readPiece_69 rfl rfl ?_) <;> try ((first | refine T_aload_n (pc1 := 71) (pc := 70) k_M_readPiece_70 rfl rfl ?_ | refine T_aload_nN (pc1 := 71) (pc := 70) k_M_readPiece_70 rfl rfl ?_) <;> try (refine T_getV (pc1 := 74) (pc := 71) k_M_readPiece_71 rfl f_M_259 rfl (by first | exact ga G (by decide) rfl | assumption) (by first | assumption | (simp (disch := omega) only [pI_eq, pI_row, pI_col, va_up_self, va_up_ne, ne_eq, not_false_eq_true] <;> rfl) | rfl) ?_ <;> try (refine T_bipush (v := (nI 8)) (pc1 := 76) (pc := 74) k_M_readPiece_74 rfl (by decide) ?_ <;> try ((first | (with_reducible refine T_icmp_geN (tgt := 83) (pc1 := 79) (pc := 76) k_M_readPiece_76 (by decide) (by decide) (by omega) (by omega) (fun hc => ?_) (fun hc => ?_) <;> first | (exfalso; omega) | skip) | refine T_icmp_ge_t (tgt := 83) (pc := 76) k_M_readPiece_76 rfl (by decide) ?_ | refine T_icmp_ge_f (tgt := 83) (pc1 := 79) (pc := 76) k_M_readPiece_76 rfl rfl (by decide) ?_ | refine T_icmp_ge (tgt := 83) (pc1 := 79) (pc := 76) k_M_readPiece_76 rfl rfl (fun hc => ?_) (fun hc => ?_)))))))
            | (refine T_iconst (v := (nI 1)) (pc1 := 80) (pc := 79) k_M_readPiece_79 rfl (by decide) ?_ <;> try (refine T_goto (tgt := 84) (pc := 80) k_M_readPiece_80 rfl ?_))
            | (refine T_iconst (v := (nI 0)) (pc1 := 84) (pc := 83) k_M_readPiece_83 rfl (by decide) ?_)
            | ((first | refine T_aload_n (pc1 := 88) (pc := 87) k_M_readPiece_87 rfl rfl ?_ | refine T_aload_nN (pc1 := 88) (pc := 87) k_M_readPiece_87 rfl rfl ?_) <;> try (refine T_dup (pc1 := 89) (pc := 88) k_M_readPiece_88 rfl rfl ?_ <;> try (refine T_getV (pc1 := 92) (pc := 89) k_M_readPiece_89 rfl f_M_259 rfl (by first | exact ga G (by decide) rfl | assumption) (by first | assumption | (simp (disch := omega) only [pI_eq, pI_row, pI_col, va_up_self, va_up_ne, ne_eq, not_false_eq_true] <;> rfl) | rfl) ?_ <;> try (refine T_iconst (v := (nI 1)) (pc1 := 93) (pc := 92) k_M_readPiece_92 rfl (by decide) ?_ <;> try ((first | with_reducible refine T_iaddN (pc1 := 94) (pc := 93) k_M_readPiece_93 (by decide) ?_ | refine T_iadd (pc1 := 94) (pc := 93) k_M_readPiece_93 rfl ?_) <;> try (refine T_putI (pc1 := 97) (pc := 94) k_M_readPiece_94 rfl f_M_259 rfl (by first | exact ga G (by decide) rfl | assumption) (by first | rfl | decide | assumption) (by first | rfl | decide | assumption) ?_ <;> try ((first | refine T_aload_n (pc1 := 98) (pc := 97) k_M_readPiece_97 rfl rfl ?_ | refine T_aload_nN (pc1 := 98) (pc := 97) k_M_readPiece_97 rfl rfl ?_))))))))
            | ((first | refine T_aload_n (pc1 := 102) (pc := 101) k_M_readPiece_101 rfl rfl ?_ | refine T_aload_nN (pc1 := 102) (pc := 101) k_M_readPiece_101 rfl rfl ?_) <;> try ((first | refine T_aload_n (pc1 := 103) (pc := 102) k_M_readPiece_102 rfl rfl ?_ | refine T_aload_nN (pc1 := 103) (pc := 102) k_M_readPiece_102 rfl rfl ?_) <;> try (refine T_bipush (v := (nI 41)) (pc1 := 105) (pc := 103) k_M_readPiece_103 rfl (by decide) ?_)))
            | ((first | refine T_aload_n (pc1 := 112) (pc := 111) k_M_readPiece_111 rfl rfl ?_ | refine T_aload_nN (pc1 := 112) (pc := 111) k_M_readPiece_111 rfl rfl ?_) <;> try (refine T_dup (pc1 := 113) (pc := 112) k_M_readPiece_112 rfl rfl ?_ <;> try (refine T_getV (pc1 := 116) (pc := 113) k_M_readPiece_113 rfl f_M_259 rfl (by first | exact ga G (by decide) rfl | assumption) (by first | assumption | (simp (disch := omega) only [pI_eq, pI_row, pI_col, va_up_self, va_up_ne, ne_eq, not_false_eq_true] <;> rfl) | rfl) ?_ <;> try (refine T_iconst (v := (nI 1)) (pc1 := 117) (pc := 116) k_M_readPiece_116 rfl (by decide) ?_ <;> try ((first | with_reducible refine T_isubN (pc1 := 118) (pc := 117) k_M_readPiece_117 (by decide) (by omega) ?_ | refine T_isub (pc1 := 118) (pc := 117) k_M_readPiece_117 rfl ?_) <;> try (refine T_putI (pc1 := 121) (pc := 118) k_M_readPiece_118 rfl f_M_259 rfl (by first | exact ga G (by decide) rfl | assumption) (by first | rfl | decide | assumption) (by first | rfl | decide | assumption) ?_ <;> try (refine T_goto (tgt := 128) (pc := 121) k_M_readPiece_121 rfl ?_)))))))
            | ((first | refine T_aload_n (pc1 := 125) (pc := 124) k_M_readPiece_124 rfl rfl ?_ | refine T_aload_nN (pc1 := 125) (pc := 124) k_M_readPiece_124 rfl rfl ?_) <;> try ((refine T_cV (As := []) (d1 := 5) (pc1 := 128) (pc := 125) k_M_readPiece_125 rfl (by show _ < 30 + _ + _ + _; omega) (Nat.le_of_ble_eq_true rfl) rfl o_M_readLeaf l_M_265 rfl (by first | exact ga G (by decide) rfl | assumption) rfl (c_M_readLeafW G hF okt hk h hw (fun J hJ hJP => ?_)) <;> try dsimp only [psh])))
            | (refine T_retV (pc := 128) k_M_readPiece_128 rfl ?_)
            | refine T_dup (pc1 := 43) (pc := 42) k_M_readPiece_42 rfl rfl ?_
            | refine T_getV (pc1 := 46) (pc := 43) k_M_readPiece_43 rfl f_M_246 rfl (by first | exact ga G (by decide) rfl | assumption) (by first | assumption | (simp (disch := omega) only [pI_eq, pI_row, pI_col, va_up_self, va_up_ne, ne_eq, not_false_eq_true] <;> rfl) | rfl) ?_
            | refine T_iconst (v := (nI 1)) (pc1 := 47) (pc := 46) k_M_readPiece_46 rfl (by decide) ?_
            | with_reducible refine T_isubN (pc1 := 48) (pc := 47) k_M_readPiece_47 (by decide) (by omega) ?_
            | refine T_isub (pc1 := 48) (pc := 47) k_M_readPiece_47 rfl ?_
            | refine T_putI (pc1 := 51) (pc := 48) k_M_readPiece_48 rfl f_M_246 rfl (by first | exact ga G (by decide) rfl | assumption) (by first | rfl | decide | assumption) (by first | rfl | decide | assumption) ?_
            | refine T_aload_n (pc1 := 52) (pc := 51) k_M_readPiece_51 rfl rfl ?_
            | refine T_aload_nN (pc1 := 52) (pc := 51) k_M_readPiece_51 rfl rfl ?_
            | refine T_bipush (v := (-29)) (pc1 := 54) (pc := 52) k_M_readPiece_52 rfl (by decide) ?_
            | (refine T_cV (As := [_]) (d1 := 1) (pc1 := 57) (pc := 54) k_M_readPiece_54 rfl (by show _ < 30 + _ + _ + _; omega) (Nat.le_of_ble_eq_true rfl) rfl o_M_step l_M_256 rfl (by first | exact ga G (by decide) rfl | assumption) rfl (c_M_stepW G (PMw_p hJ2P (by decide)) ?_) <;> try dsimp only [psh])
            | refine T_goto (tgt := 128) (pc := 57) k_M_readPiece_57 rfl ?_
            | refine T_bipush (v := (nI 40)) (pc1 := 63) (pc := 61) k_M_readPiece_61 rfl (by decide) ?_
            | (refine T_cV (As := [_]) (d1 := 1) (pc1 := 66) (pc := 63) k_M_readPiece_63 rfl (by show _ < 30 + _ + _ + _; omega) (Nat.le_of_ble_eq_true rfl) rfl o_M_isSign l_M_243 rfl (by first | exact ga G (by decide) rfl | assumption) rfl (c_M_isSignO G okt (by decide) hP hw (fun s2 => ?_) (fun s2 => ?_)) <;> try dsimp only [psh])
            | (with_reducible refine T_if_eqN (tgt := 124) (pc1 := 69) (pc := 66) k_M_readPiece_66 (by decide) (by decide) (by omega) (fun hc => ?_) (fun hc => ?_) <;> first | (exfalso; omega) | skip)
            | refine T_if_eq_t (tgt := 124) (pc := 66) k_M_readPiece_66 rfl (by decide) ?_
            | refine T_if_eq_f (tgt := 124) (pc1 := 69) (pc := 66) k_M_readPiece_66 rfl rfl (by decide) ?_
            | refine T_if_eq (tgt := 124) (pc1 := 69) (pc := 66) k_M_readPiece_66 rfl rfl (fun hc => ?_) (fun hc => ?_)
            | refine T_aload_n (pc1 := 71) (pc := 70) k_M_readPiece_70 rfl rfl ?_
            | refine T_aload_nN (pc1 := 71) (pc := 70) k_M_readPiece_70 rfl rfl ?_
            | refine T_getV (pc1 := 74) (pc := 71) k_M_readPiece_71 rfl f_M_259 rfl (by first | exact ga G (by decide) rfl | assumption) (by first | assumption | (simp (disch := omega) only [pI_eq, pI_row, pI_col, va_up_self, va_up_ne, ne_eq, not_false_eq_true] <;> rfl) | rfl) ?_
            | refine T_bipush (v := (nI 8)) (pc1 := 76) (pc := 74) k_M_readPiece_74 rfl (by decide) ?_
            | (with_reducible refine T_icmp_geN (tgt := 83) (pc1 := 79) (pc := 76) k_M_readPiece_76 (by decide) (by decide) (by omega) (by omega) (fun hc => ?_) (fun hc => ?_) <;> first | (exfalso; omega) | skip)
            | refine T_icmp_ge_t (tgt := 83) (pc := 76) k_M_readPiece_76 rfl (by decide) ?_
            | refine T_icmp_ge_f (tgt := 83) (pc1 := 79) (pc := 76) k_M_readPiece_76 rfl rfl (by decide) ?_
            | refine T_icmp_ge (tgt := 83) (pc1 := 79) (pc := 76) k_M_readPiece_76 rfl rfl (fun hc => ?_) (fun hc => ?_)
            | refine T_goto (tgt := 84) (pc := 80) k_M_readPiece_80 rfl ?_
            | refine T_dup (pc1 := 89) (pc := 88) k_M_readPiece_88 rfl rfl ?_
            | refine T_getV (pc1 := 92) (pc := 89) k_M_readPiece_89 rfl f_M_259 rfl (by first | exact ga G (by decide) rfl | assumption) (by first | assumption | (simp (disch := omega) only [pI_eq, pI_row, pI_col, va_up_self, va_up_ne, ne_eq, not_false_eq_true] <;> rfl) | rfl) ?_
            | refine T_iconst (v := (nI 1)) (pc1 := 93) (pc := 92) k_M_readPiece_92 rfl (by decide) ?_
            | with_reducible refine T_iaddN (pc1 := 94) (pc := 93) k_M_readPiece_93 (by decide) ?_
            | refine T_iadd (pc1 := 94) (pc := 93) k_M_readPiece_93 rfl ?_
            | refine T_putI (pc1 := 97) (pc := 94) k_M_readPiece_94 rfl f_M_259 rfl (by first | exact ga G (by decide) rfl | assumption) (by first | rfl | decide | assumption) (by first | rfl | decide | assumption) ?_
            | refine T_aload_n (pc1 := 98) (pc := 97) k_M_readPiece_97 rfl rfl ?_
            | refine T_aload_nN (pc1 := 98) (pc := 97) k_M_readPiece_97 rfl rfl ?_
            | refine T_aload_n (pc1 := 103) (pc := 102) k_M_readPiece_102 rfl rfl ?_
            | refine T_aload_nN (pc1 := 103) (pc := 102) k_M_readPiece_102 rfl rfl ?_
            | refine T_bipush (v := (nI 41)) (pc1 := 105) (pc := 103) k_M_readPiece_103 rfl (by decide) ?_
            | refine T_dup (pc1 := 113) (pc := 112) k_M_readPiece_112 rfl rfl ?_
            | refine T_getV (pc1 := 116) (pc := 113) k_M_readPiece_113 rfl f_M_259 rfl (by first | exact ga G (by decide) rfl | assumption) (by first | assumption | (simp (disch := omega) only [pI_eq, pI_row, pI_col, va_up_self, va_up_ne, ne_eq, not_false_eq_true] <;> rfl) | rfl) ?_
            | refine T_iconst (v := (nI 1)) (pc1 := 117) (pc := 116) k_M_readPiece_116 rfl (by decide) ?_
            | with_reducible refine T_isubN (pc1 := 118) (pc := 117) k_M_readPiece_117 (by decide) (by omega) ?_
            | refine T_isub (pc1 := 118) (pc := 117) k_M_readPiece_117 rfl ?_
            | refine T_putI (pc1 := 121) (pc := 118) k_M_readPiece_118 rfl f_M_259 rfl (by first | exact ga G (by decide) rfl | assumption) (by first | rfl | decide | assumption) (by first | rfl | decide | assumption) ?_
            | refine T_goto (tgt := 128) (pc := 121) k_M_readPiece_121 rfl ?_
            | (refine T_cV (As := []) (d1 := 5) (pc1 := 128) (pc := 125) k_M_readPiece_125 rfl (by show _ < 30 + _ + _ + _; omega) (Nat.le_of_ble_eq_true rfl) rfl o_M_readLeaf l_M_265 rfl (by first | exact ga G (by decide) rfl | assumption) rfl (c_M_readLeafW G hF okt hk h hw (fun J hJ hJP => ?_)) <;> try dsimp only [psh]))
          subst hr
          exact k1 _ rfl (FrM_tr hJ1 (FrM_tr (FrM_tr (FrM_p FrM_rf (by decide)) hJ2) (FrM_p FrM_rf (by decide)))) (PMw_p hJ2P (by decide))
      · rw [if_neg hn8] at hr
        repeat' (first
          | ((first | refine T_aload_n (pc1 := 10) (pc := 9) k_M_readPiece_9 rfl rfl ?_ | refine T_aload_nN (pc1 := 10) (pc := 9) k_M_readPiece_9 rfl rfl ?_) <;> try ((first | refine T_aload_n (pc1 := 11) (pc := 10) k_M_readPiece_10 rfl rfl ?_ | refine T_aload_nN (pc1 := 11) (pc := 10) k_M_readPiece_10 rfl rfl ?_) <;> try (refine T_getV (pc1 := 14) (pc := 11) k_M_readPiece_11 rfl f_M_246 rfl (by first | exact ga G (by decide) rfl | assumption) (by first | assumption | (simp (disch := omega) only [pI_eq, pI_row, pI_col, va_up_self, va_up_ne, ne_eq, not_false_eq_true] <;> rfl) | rfl) ?_ <;> try (refine T_bipush (v := (nI 8)) (pc1 := 16) (pc := 14) k_M_readPiece_14 rfl (by decide) ?_ <;> try ((first | (with_reducible refine T_icmp_geN (tgt := 23) (pc1 := 19) (pc := 16) k_M_readPiece_16 (by decide) (by decide) (by omega) (by omega) (fun hc => ?_) (fun hc => ?_) <;> first | (exfalso; omega) | skip) | refine T_icmp_ge_t (tgt := 23) (pc := 16) k_M_readPiece_16 rfl (by decide) ?_ | refine T_icmp_ge_f (tgt := 23) (pc1 := 19) (pc := 16) k_M_readPiece_16 rfl rfl (by decide) ?_ | refine T_icmp_ge (tgt := 23) (pc1 := 19) (pc := 16) k_M_readPiece_16 rfl rfl (fun hc => ?_) (fun hc => ?_)))))))
          | (refine T_iconst (v := (nI 1)) (pc1 := 20) (pc := 19) k_M_readPiece_19 rfl (by decide) ?_ <;> try (refine T_goto (tgt := 24) (pc := 20) k_M_readPiece_20 rfl ?_))
          | (refine T_iconst (v := (nI 0)) (pc1 := 24) (pc := 23) k_M_readPiece_23 rfl (by decide) ?_)
          | ((refine T_cV (As := [_]) (d1 := 4) (pc1 := 27) (pc := 24) k_M_readPiece_24 rfl (by show _ < 30 + _ + _ + _; omega) (Nat.le_of_ble_eq_true rfl) rfl o_M_must l_M_249 rfl (by first | exact ga G (by decide) rfl | assumption) rfl (c_M_must0 G hP (fun J1 hJ1 hJ1P => ?_)) <;> try dsimp only [psh]))
          | refine T_aload_n (pc1 := 11) (pc := 10) k_M_readPiece_10 rfl rfl ?_
          | refine T_aload_nN (pc1 := 11) (pc := 10) k_M_readPiece_10 rfl rfl ?_
          | refine T_getV (pc1 := 14) (pc := 11) k_M_readPiece_11 rfl f_M_246 rfl (by first | exact ga G (by decide) rfl | assumption) (by first | assumption | (simp (disch := omega) only [pI_eq, pI_row, pI_col, va_up_self, va_up_ne, ne_eq, not_false_eq_true] <;> rfl) | rfl) ?_
          | refine T_bipush (v := (nI 8)) (pc1 := 16) (pc := 14) k_M_readPiece_14 rfl (by decide) ?_
          | (with_reducible refine T_icmp_geN (tgt := 23) (pc1 := 19) (pc := 16) k_M_readPiece_16 (by decide) (by decide) (by omega) (by omega) (fun hc => ?_) (fun hc => ?_) <;> first | (exfalso; omega) | skip)
          | refine T_icmp_ge_t (tgt := 23) (pc := 16) k_M_readPiece_16 rfl (by decide) ?_
          | refine T_icmp_ge_f (tgt := 23) (pc1 := 19) (pc := 16) k_M_readPiece_16 rfl rfl (by decide) ?_
          | refine T_icmp_ge (tgt := 23) (pc1 := 19) (pc := 16) k_M_readPiece_16 rfl rfl (fun hc => ?_) (fun hc => ?_)
          | refine T_goto (tgt := 24) (pc := 20) k_M_readPiece_20 rfl ?_)
        all_goals try (exfalso; omega)
        repeat' (first
          | ((first | refine T_aload_n (pc1 := 28) (pc := 27) k_M_readPiece_27 rfl rfl ?_ | refine T_aload_nN (pc1 := 28) (pc := 27) k_M_readPiece_27 rfl rfl ?_) <;> try (refine T_dup (pc1 := 29) (pc := 28) k_M_readPiece_28 rfl rfl ?_ <;> try (refine T_getV (pc1 := 32) (pc := 29) k_M_readPiece_29 rfl f_M_246 rfl (by first | exact ga G (by decide) rfl | assumption) (by first | assumption | (simp (disch := omega) only [pI_eq, pI_row, pI_col, va_up_self, va_up_ne, ne_eq, not_false_eq_true] <;> rfl) | rfl) ?_ <;> try (refine T_iconst (v := (nI 1)) (pc1 := 33) (pc := 32) k_M_readPiece_32 rfl (by decide) ?_ <;> try ((first | with_reducible refine T_iaddN (pc1 := 34) (pc := 33) k_M_readPiece_33 (by decide) ?_ | refine T_iadd (pc1 := 34) (pc := 33) k_M_readPiece_33 rfl ?_) <;> try (refine T_putI (pc1 := 37) (pc := 34) k_M_readPiece_34 rfl f_M_246 rfl (by first | exact ga G (by decide) rfl | assumption) (by first | rfl | decide | assumption) (by first | rfl | decide | assumption) ?_ <;> try ((first | refine T_aload_n (pc1 := 38) (pc := 37) k_M_readPiece_37 rfl rfl ?_ | refine T_aload_nN (pc1 := 38) (pc := 37) k_M_readPiece_37 rfl rfl ?_))))))))
          | refine T_dup (pc1 := 29) (pc := 28) k_M_readPiece_28 rfl rfl ?_
          | refine T_getV (pc1 := 32) (pc := 29) k_M_readPiece_29 rfl f_M_246 rfl (by first | exact ga G (by decide) rfl | assumption) (by first | assumption | (simp (disch := omega) only [pI_eq, pI_row, pI_col, va_up_self, va_up_ne, ne_eq, not_false_eq_true] <;> rfl) | rfl) ?_
          | refine T_iconst (v := (nI 1)) (pc1 := 33) (pc := 32) k_M_readPiece_32 rfl (by decide) ?_
          | with_reducible refine T_iaddN (pc1 := 34) (pc := 33) k_M_readPiece_33 (by decide) ?_
          | refine T_iadd (pc1 := 34) (pc := 33) k_M_readPiece_33 rfl ?_
          | refine T_putI (pc1 := 37) (pc := 34) k_M_readPiece_34 rfl f_M_246 rfl (by first | exact ga G (by decide) rfl | assumption) (by first | rfl | decide | assumption) (by first | rfl | decide | assumption) ?_
          | refine T_aload_n (pc1 := 38) (pc := 37) k_M_readPiece_37 rfl rfl ?_
          | refine T_aload_nN (pc1 := 38) (pc := 37) k_M_readPiece_37 rfl rfl ?_)
        refine T_cV (As := []) (d1 := 20) (pc1 := 41) (pc := 38) k_M_readPiece_38 rfl (by show 20 < 30 + _ + _ + _; omega) (Nat.le_of_ble_eq_true rfl) rfl o_M_readPiece l_M_253 rfl (ga G (by decide) rfl) rfl (c_M_readPieceW G hF okt hk (PMw_p hJ1P (by decide)) hw (fun J2 hJ2 hJ2P => ?_)) <;> try dsimp only [psh]
        repeat' (first
          | ((first | refine T_aload_n (pc1 := 42) (pc := 41) k_M_readPiece_41 rfl rfl ?_ | refine T_aload_nN (pc1 := 42) (pc := 41) k_M_readPiece_41 rfl rfl ?_) <;> try (refine T_dup (pc1 := 43) (pc := 42) k_M_readPiece_42 rfl rfl ?_ <;> try (refine T_getV (pc1 := 46) (pc := 43) k_M_readPiece_43 rfl f_M_246 rfl (by first | exact ga G (by decide) rfl | assumption) (by first | assumption | (simp (disch := omega) only [pI_eq, pI_row, pI_col, va_up_self, va_up_ne, ne_eq, not_false_eq_true] <;> rfl) | rfl) ?_ <;> try (refine T_iconst (v := (nI 1)) (pc1 := 47) (pc := 46) k_M_readPiece_46 rfl (by decide) ?_ <;> try ((first | with_reducible refine T_isubN (pc1 := 48) (pc := 47) k_M_readPiece_47 (by decide) (by omega) ?_ | refine T_isub (pc1 := 48) (pc := 47) k_M_readPiece_47 rfl ?_) <;> try (refine T_putI (pc1 := 51) (pc := 48) k_M_readPiece_48 rfl f_M_246 rfl (by first | exact ga G (by decide) rfl | assumption) (by first | rfl | decide | assumption) (by first | rfl | decide | assumption) ?_ <;> try ((first | refine T_aload_n (pc1 := 52) (pc := 51) k_M_readPiece_51 rfl rfl ?_ | refine T_aload_nN (pc1 := 52) (pc := 51) k_M_readPiece_51 rfl rfl ?_) <;> try (refine T_bipush (v := (-29)) (pc1 := 54) (pc := 52) k_M_readPiece_52 rfl (by decide) ?_ <;> try ((refine T_cV (As := [_]) (d1 := 1) (pc1 := 57) (pc := 54) k_M_readPiece_54 rfl (by show _ < 30 + _ + _ + _; omega) (Nat.le_of_ble_eq_true rfl) rfl o_M_step l_M_256 rfl (by first | exact ga G (by decide) rfl | assumption) rfl (c_M_stepW G (PMw_p hJ2P (by decide)) ?_) <;> try dsimp only [psh]) <;> try (refine T_goto (tgt := 128) (pc := 57) k_M_readPiece_57 rfl ?_))))))))))
          | ((first | refine T_aload_n (pc1 := 61) (pc := 60) k_M_readPiece_60 rfl rfl ?_ | refine T_aload_nN (pc1 := 61) (pc := 60) k_M_readPiece_60 rfl rfl ?_) <;> try (refine T_bipush (v := (nI 40)) (pc1 := 63) (pc := 61) k_M_readPiece_61 rfl (by decide) ?_ <;> try ((refine T_cV (As := [_]) (d1 := 1) (pc1 := 66) (pc := 63) k_M_readPiece_63 rfl (by show _ < 30 + _ + _ + _; omega) (Nat.le_of_ble_eq_true rfl) rfl o_M_isSign l_M_243 rfl (by first | exact ga G (by decide) rfl | assumption) rfl (c_M_isSignO G okt (by decide) hP hw (fun s2 => ?_) (fun s2 => ?_)) <;> try dsimp only [psh]) <;> try ((first | (with_reducible refine T_if_eqN (tgt := 124) (pc1 := 69) (pc := 66) k_M_readPiece_66 (by decide) (by decide) (by omega) (fun hc => ?_) (fun hc => ?_) <;> first | (exfalso; omega) | skip) | refine T_if_eq_t (tgt := 124) (pc := 66) k_M_readPiece_66 rfl (by decide) ?_ | refine T_if_eq_f (tgt := 124) (pc1 := 69) (pc := 66) k_M_readPiece_66 rfl rfl (by decide) ?_ | refine T_if_eq (tgt := 124) (pc1 := 69) (pc := 66) k_M_readPiece_66 rfl rfl (fun hc => ?_) (fun hc => ?_))))))
          | ((first | refine T_aload_n (pc1 := 70) (pc := 69) k_M_readPiece_69 rfl rfl ?_ | refine T_aload_nN (pc1 := 70) (pc := 69) k_M_readPiece_69 rfl rfl ?_) <;> try ((first | refine T_aload_n (pc1 := 71) (pc := 70) k_M_readPiece_70 rfl rfl ?_ | refine T_aload_nN (pc1 := 71) (pc := 70) k_M_readPiece_70 rfl rfl ?_) <;> try (refine T_getV (pc1 := 74) (pc := 71) k_M_readPiece_71 rfl f_M_259 rfl (by first | exact ga G (by decide) rfl | assumption) (by first | assumption | (simp (disch := omega) only [pI_eq, pI_row, pI_col, va_up_self, va_up_ne, ne_eq, not_false_eq_true] <;> rfl) | rfl) ?_ <;> try (refine T_bipush (v := (nI 8)) (pc1 := 76) (pc := 74) k_M_readPiece_74 rfl (by decide) ?_ <;> try ((first | (with_reducible refine T_icmp_geN (tgt := 83) (pc1 := 79) (pc := 76) k_M_readPiece_76 (by decide) (by decide) (by omega) (by omega) (fun hc => ?_) (fun hc => ?_) <;> first | (exfalso; omega) | skip) | refine T_icmp_ge_t (tgt := 83) (pc := 76) k_M_readPiece_76 rfl (by decide) ?_ | refine T_icmp_ge_f (tgt := 83) (pc1 := 79) (pc := 76) k_M_readPiece_76 rfl rfl (by decide) ?_ | refine T_icmp_ge (tgt := 83) (pc1 := 79) (pc := 76) k_M_readPiece_76 rfl rfl (fun hc => ?_) (fun hc => ?_)))))))
          | (refine T_iconst (v := (nI 1)) (pc1 := 80) (pc := 79) k_M_readPiece_79 rfl (by decide) ?_ <;> try (refine T_goto (tgt := 84) (pc := 80) k_M_readPiece_80 rfl ?_))
          | (refine T_iconst (v := (nI 0)) (pc1 := 84) (pc := 83) k_M_readPiece_83 rfl (by decide) ?_)
          | ((first | refine T_aload_n (pc1 := 88) (pc := 87) k_M_readPiece_87 rfl rfl ?_ | refine T_aload_nN (pc1 := 88) (pc := 87) k_M_readPiece_87 rfl rfl ?_) <;> try (refine T_dup (pc1 := 89) (pc := 88) k_M_readPiece_88 rfl rfl ?_ <;> try (refine T_getV (pc1 := 92) (pc := 89) k_M_readPiece_89 rfl f_M_259 rfl (by first | exact ga G (by decide) rfl | assumption) (by first | assumption | (simp (disch := omega) only [pI_eq, pI_row, pI_col, va_up_self, va_up_ne, ne_eq, not_false_eq_true] <;> rfl) | rfl) ?_ <;> try (refine T_iconst (v := (nI 1)) (pc1 := 93) (pc := 92) k_M_readPiece_92 rfl (by decide) ?_ <;> try ((first | with_reducible refine T_iaddN (pc1 := 94) (pc := 93) k_M_readPiece_93 (by decide) ?_ | refine T_iadd (pc1 := 94) (pc := 93) k_M_readPiece_93 rfl ?_) <;> try (refine T_putI (pc1 := 97) (pc := 94) k_M_readPiece_94 rfl f_M_259 rfl (by first | exact ga G (by decide) rfl | assumption) (by first | rfl | decide | assumption) (by first | rfl | decide | assumption) ?_ <;> try ((first | refine T_aload_n (pc1 := 98) (pc := 97) k_M_readPiece_97 rfl rfl ?_ | refine T_aload_nN (pc1 := 98) (pc := 97) k_M_readPiece_97 rfl rfl ?_))))))))
          | ((first | refine T_aload_n (pc1 := 102) (pc := 101) k_M_readPiece_101 rfl rfl ?_ | refine T_aload_nN (pc1 := 102) (pc := 101) k_M_readPiece_101 rfl rfl ?_) <;> try ((first | refine T_aload_n (pc1 := 103) (pc := 102) k_M_readPiece_102 rfl rfl ?_ | refine T_aload_nN (pc1 := 103) (pc := 102) k_M_readPiece_102 rfl rfl ?_) <;> try (refine T_bipush (v := (nI 41)) (pc1 := 105) (pc := 103) k_M_readPiece_103 rfl (by decide) ?_)))
          | ((first | refine T_aload_n (pc1 := 112) (pc := 111) k_M_readPiece_111 rfl rfl ?_ | refine T_aload_nN (pc1 := 112) (pc := 111) k_M_readPiece_111 rfl rfl ?_) <;> try (refine T_dup (pc1 := 113) (pc := 112) k_M_readPiece_112 rfl rfl ?_ <;> try (refine T_getV (pc1 := 116) (pc := 113) k_M_readPiece_113 rfl f_M_259 rfl (by first | exact ga G (by decide) rfl | assumption) (by first | assumption | (simp (disch := omega) only [pI_eq, pI_row, pI_col, va_up_self, va_up_ne, ne_eq, not_false_eq_true] <;> rfl) | rfl) ?_ <;> try (refine T_iconst (v := (nI 1)) (pc1 := 117) (pc := 116) k_M_readPiece_116 rfl (by decide) ?_ <;> try ((first | with_reducible refine T_isubN (pc1 := 118) (pc := 117) k_M_readPiece_117 (by decide) (by omega) ?_ | refine T_isub (pc1 := 118) (pc := 117) k_M_readPiece_117 rfl ?_) <;> try (refine T_putI (pc1 := 121) (pc := 118) k_M_readPiece_118 rfl f_M_259 rfl (by first | exact ga G (by decide) rfl | assumption) (by first | rfl | decide | assumption) (by first | rfl | decide | assumption) ?_ <;> try (refine T_goto (tgt := 128) (pc := 121) k_M_readPiece_121 rfl ?_)))))))
          | ((first | refine T_aload_n (pc1 := 125) (pc := 124) k_M_readPiece_124 rfl rfl ?_ | refine T_aload_nN (pc1 := 125) (pc := 124) k_M_readPiece_124 rfl rfl ?_) <;> try ((refine T_cV (As := []) (d1 := 5) (pc1 := 128) (pc := 125) k_M_readPiece_125 rfl (by show _ < 30 + _ + _ + _; omega) (Nat.le_of_ble_eq_true rfl) rfl o_M_readLeaf l_M_265 rfl (by first | exact ga G (by decide) rfl | assumption) rfl (c_M_readLeafW G hF okt hk h hw (fun J hJ hJP => ?_)) <;> try dsimp only [psh])))
          | (refine T_retV (pc := 128) k_M_readPiece_128 rfl ?_)
          | refine T_dup (pc1 := 43) (pc := 42) k_M_readPiece_42 rfl rfl ?_
          | refine T_getV (pc1 := 46) (pc := 43) k_M_readPiece_43 rfl f_M_246 rfl (by first | exact ga G (by decide) rfl | assumption) (by first | assumption | (simp (disch := omega) only [pI_eq, pI_row, pI_col, va_up_self, va_up_ne, ne_eq, not_false_eq_true] <;> rfl) | rfl) ?_
          | refine T_iconst (v := (nI 1)) (pc1 := 47) (pc := 46) k_M_readPiece_46 rfl (by decide) ?_
          | with_reducible refine T_isubN (pc1 := 48) (pc := 47) k_M_readPiece_47 (by decide) (by omega) ?_
          | refine T_isub (pc1 := 48) (pc := 47) k_M_readPiece_47 rfl ?_
          | refine T_putI (pc1 := 51) (pc := 48) k_M_readPiece_48 rfl f_M_246 rfl (by first | exact ga G (by decide) rfl | assumption) (by first | rfl | decide | assumption) (by first | rfl | decide | assumption) ?_
          | refine T_aload_n (pc1 := 52) (pc := 51) k_M_readPiece_51 rfl rfl ?_
          | refine T_aload_nN (pc1 := 52) (pc := 51) k_M_readPiece_51 rfl rfl ?_
          | refine T_bipush (v := (-29)) (pc1 := 54) (pc := 52) k_M_readPiece_52 rfl (by decide) ?_
          | (refine T_cV (As := [_]) (d1 := 1) (pc1 := 57) (pc := 54) k_M_readPiece_54 rfl (by show _ < 30 + _ + _ + _; omega) (Nat.le_of_ble_eq_true rfl) rfl o_M_step l_M_256 rfl (by first | exact ga G (by decide) rfl | assumption) rfl (c_M_stepW G (PMw_p hJ2P (by decide)) ?_) <;> try dsimp only [psh])
          | refine T_goto (tgt := 128) (pc := 57) k_M_readPiece_57 rfl ?_
          | refine T_bipush (v := (nI 40)) (pc1 := 63) (pc := 61) k_M_readPiece_61 rfl (by decide) ?_
          | (refine T_cV (As := [_]) (d1 := 1) (pc1 := 66) (pc := 63) k_M_readPiece_63 rfl (by show _ < 30 + _ + _ + _; omega) (Nat.le_of_ble_eq_true rfl) rfl o_M_isSign l_M_243 rfl (by first | exact ga G (by decide) rfl | assumption) rfl (c_M_isSignO G okt (by decide) hP hw (fun s2 => ?_) (fun s2 => ?_)) <;> try dsimp only [psh])
          | (with_reducible refine T_if_eqN (tgt := 124) (pc1 := 69) (pc := 66) k_M_readPiece_66 (by decide) (by decide) (by omega) (fun hc => ?_) (fun hc => ?_) <;> first | (exfalso; omega) | skip)
          | refine T_if_eq_t (tgt := 124) (pc := 66) k_M_readPiece_66 rfl (by decide) ?_
          | refine T_if_eq_f (tgt := 124) (pc1 := 69) (pc := 66) k_M_readPiece_66 rfl rfl (by decide) ?_
          | refine T_if_eq (tgt := 124) (pc1 := 69) (pc := 66) k_M_readPiece_66 rfl rfl (fun hc => ?_) (fun hc => ?_)
          | refine T_aload_n (pc1 := 71) (pc := 70) k_M_readPiece_70 rfl rfl ?_
          | refine T_aload_nN (pc1 := 71) (pc := 70) k_M_readPiece_70 rfl rfl ?_
          | refine T_getV (pc1 := 74) (pc := 71) k_M_readPiece_71 rfl f_M_259 rfl (by first | exact ga G (by decide) rfl | assumption) (by first | assumption | (simp (disch := omega) only [pI_eq, pI_row, pI_col, va_up_self, va_up_ne, ne_eq, not_false_eq_true] <;> rfl) | rfl) ?_
          | refine T_bipush (v := (nI 8)) (pc1 := 76) (pc := 74) k_M_readPiece_74 rfl (by decide) ?_
          | (with_reducible refine T_icmp_geN (tgt := 83) (pc1 := 79) (pc := 76) k_M_readPiece_76 (by decide) (by decide) (by omega) (by omega) (fun hc => ?_) (fun hc => ?_) <;> first | (exfalso; omega) | skip)
          | refine T_icmp_ge_t (tgt := 83) (pc := 76) k_M_readPiece_76 rfl (by decide) ?_
          | refine T_icmp_ge_f (tgt := 83) (pc1 := 79) (pc := 76) k_M_readPiece_76 rfl rfl (by decide) ?_
          | refine T_icmp_ge (tgt := 83) (pc1 := 79) (pc := 76) k_M_readPiece_76 rfl rfl (fun hc => ?_) (fun hc => ?_)
          | refine T_goto (tgt := 84) (pc := 80) k_M_readPiece_80 rfl ?_
          | refine T_dup (pc1 := 89) (pc := 88) k_M_readPiece_88 rfl rfl ?_
          | refine T_getV (pc1 := 92) (pc := 89) k_M_readPiece_89 rfl f_M_259 rfl (by first | exact ga G (by decide) rfl | assumption) (by first | assumption | (simp (disch := omega) only [pI_eq, pI_row, pI_col, va_up_self, va_up_ne, ne_eq, not_false_eq_true] <;> rfl) | rfl) ?_
          | refine T_iconst (v := (nI 1)) (pc1 := 93) (pc := 92) k_M_readPiece_92 rfl (by decide) ?_
          | with_reducible refine T_iaddN (pc1 := 94) (pc := 93) k_M_readPiece_93 (by decide) ?_
          | refine T_iadd (pc1 := 94) (pc := 93) k_M_readPiece_93 rfl ?_
          | refine T_putI (pc1 := 97) (pc := 94) k_M_readPiece_94 rfl f_M_259 rfl (by first | exact ga G (by decide) rfl | assumption) (by first | rfl | decide | assumption) (by first | rfl | decide | assumption) ?_
          | refine T_aload_n (pc1 := 98) (pc := 97) k_M_readPiece_97 rfl rfl ?_
          | refine T_aload_nN (pc1 := 98) (pc := 97) k_M_readPiece_97 rfl rfl ?_
          | refine T_aload_n (pc1 := 103) (pc := 102) k_M_readPiece_102 rfl rfl ?_
          | refine T_aload_nN (pc1 := 103) (pc := 102) k_M_readPiece_102 rfl rfl ?_
          | refine T_bipush (v := (nI 41)) (pc1 := 105) (pc := 103) k_M_readPiece_103 rfl (by decide) ?_
          | refine T_dup (pc1 := 113) (pc := 112) k_M_readPiece_112 rfl rfl ?_
          | refine T_getV (pc1 := 116) (pc := 113) k_M_readPiece_113 rfl f_M_259 rfl (by first | exact ga G (by decide) rfl | assumption) (by first | assumption | (simp (disch := omega) only [pI_eq, pI_row, pI_col, va_up_self, va_up_ne, ne_eq, not_false_eq_true] <;> rfl) | rfl) ?_
          | refine T_iconst (v := (nI 1)) (pc1 := 117) (pc := 116) k_M_readPiece_116 rfl (by decide) ?_
          | with_reducible refine T_isubN (pc1 := 118) (pc := 117) k_M_readPiece_117 (by decide) (by omega) ?_
          | refine T_isub (pc1 := 118) (pc := 117) k_M_readPiece_117 rfl ?_
          | refine T_putI (pc1 := 121) (pc := 118) k_M_readPiece_118 rfl f_M_259 rfl (by first | exact ga G (by decide) rfl | assumption) (by first | rfl | decide | assumption) (by first | rfl | decide | assumption) ?_
          | refine T_goto (tgt := 128) (pc := 121) k_M_readPiece_121 rfl ?_
          | (refine T_cV (As := []) (d1 := 5) (pc1 := 128) (pc := 125) k_M_readPiece_125 rfl (by show _ < 30 + _ + _ + _; omega) (Nat.le_of_ble_eq_true rfl) rfl o_M_readLeaf l_M_265 rfl (by first | exact ga G (by decide) rfl | assumption) rfl (c_M_readLeafW G hF okt hk h hw (fun J hJ hJP => ?_)) <;> try dsimp only [psh]))
        subst hr
        exact k1 _ rfl (FrM_tr hJ1 (FrM_tr (FrM_tr (FrM_p FrM_rf (by decide)) hJ2) (FrM_p FrM_rf (by decide)))) (PMw_p hJ2P (by decide))
    · rw [if_neg (by rw [s1]; decide), if_pos s2] at hr
      have w4 := hw.2.2.1 (by rw [(sgI_3 s2).1]; decide)
      by_cases hn8 : op < 8
      · rw [if_pos hn8] at hr
        have nf : 7 * (z - pS (nx T z p)) + rkm 0 < f := by rw [rkm_le (by decide)]; omega
        have q1 := prs_ok okt hk f 0 no (op + 1) (nx T z p) (Or.inl (by decide)) n1 nf nI0 (by omega)
        repeat' (first
          | ((first | refine T_aload_n (pc1 := 70) (pc := 69) k_M_readPiece_69 rfl rfl ?_ | refine T_aload_nN (pc1 := 70) (pc := 69) k_M_readPiece_69 rfl rfl ?_) <;> try ((first | refine T_aload_n (pc1 := 71) (pc := 70) k_M_readPiece_70 rfl rfl ?_ | refine T_aload_nN (pc1 := 71) (pc := 70) k_M_readPiece_70 rfl rfl ?_) <;> try (refine T_getV (pc1 := 74) (pc := 71) k_M_readPiece_71 rfl f_M_259 rfl (by first | exact ga G (by decide) rfl | assumption) (by first | assumption | (simp (disch := omega) only [pI_eq, pI_row, pI_col, va_up_self, va_up_ne, ne_eq, not_false_eq_true] <;> rfl) | rfl) ?_ <;> try (refine T_bipush (v := (nI 8)) (pc1 := 76) (pc := 74) k_M_readPiece_74 rfl (by decide) ?_ <;> try ((first | (with_reducible refine T_icmp_geN (tgt := 83) (pc1 := 79) (pc := 76) k_M_readPiece_76 (by decide) (by decide) (by omega) (by omega) (fun hc => ?_) (fun hc => ?_) <;> first | (exfalso; omega) | skip) | refine T_icmp_ge_t (tgt := 83) (pc := 76) k_M_readPiece_76 rfl (by decide) ?_ | refine T_icmp_ge_f (tgt := 83) (pc1 := 79) (pc := 76) k_M_readPiece_76 rfl rfl (by decide) ?_ | refine T_icmp_ge (tgt := 83) (pc1 := 79) (pc := 76) k_M_readPiece_76 rfl rfl (fun hc => ?_) (fun hc => ?_)))))))
          | (refine T_iconst (v := (nI 1)) (pc1 := 80) (pc := 79) k_M_readPiece_79 rfl (by decide) ?_ <;> try (refine T_goto (tgt := 84) (pc := 80) k_M_readPiece_80 rfl ?_))
          | (refine T_iconst (v := (nI 0)) (pc1 := 84) (pc := 83) k_M_readPiece_83 rfl (by decide) ?_)
          | ((refine T_cV (As := [_]) (d1 := 4) (pc1 := 87) (pc := 84) k_M_readPiece_84 rfl (by show _ < 30 + _ + _ + _; omega) (Nat.le_of_ble_eq_true rfl) rfl o_M_must l_M_249 rfl (by first | exact ga G (by decide) rfl | assumption) rfl (c_M_must1 G okt hP hw (fun J1 hJ1 hJ1P => ?_)) <;> try dsimp only [psh]))
          | refine T_aload_n (pc1 := 71) (pc := 70) k_M_readPiece_70 rfl rfl ?_
          | refine T_aload_nN (pc1 := 71) (pc := 70) k_M_readPiece_70 rfl rfl ?_
          | refine T_getV (pc1 := 74) (pc := 71) k_M_readPiece_71 rfl f_M_259 rfl (by first | exact ga G (by decide) rfl | assumption) (by first | assumption | (simp (disch := omega) only [pI_eq, pI_row, pI_col, va_up_self, va_up_ne, ne_eq, not_false_eq_true] <;> rfl) | rfl) ?_
          | refine T_bipush (v := (nI 8)) (pc1 := 76) (pc := 74) k_M_readPiece_74 rfl (by decide) ?_
          | (with_reducible refine T_icmp_geN (tgt := 83) (pc1 := 79) (pc := 76) k_M_readPiece_76 (by decide) (by decide) (by omega) (by omega) (fun hc => ?_) (fun hc => ?_) <;> first | (exfalso; omega) | skip)
          | refine T_icmp_ge_t (tgt := 83) (pc := 76) k_M_readPiece_76 rfl (by decide) ?_
          | refine T_icmp_ge_f (tgt := 83) (pc1 := 79) (pc := 76) k_M_readPiece_76 rfl rfl (by decide) ?_
          | refine T_icmp_ge (tgt := 83) (pc1 := 79) (pc := 76) k_M_readPiece_76 rfl rfl (fun hc => ?_) (fun hc => ?_)
          | refine T_goto (tgt := 84) (pc := 80) k_M_readPiece_80 rfl ?_)
        all_goals try (exfalso; omega)
        have h8b := hJ1P.2.2.2.2.2.2.2.1
        repeat' (first
          | ((first | refine T_aload_n (pc1 := 88) (pc := 87) k_M_readPiece_87 rfl rfl ?_ | refine T_aload_nN (pc1 := 88) (pc := 87) k_M_readPiece_87 rfl rfl ?_) <;> try (refine T_dup (pc1 := 89) (pc := 88) k_M_readPiece_88 rfl rfl ?_ <;> try (refine T_getV (pc1 := 92) (pc := 89) k_M_readPiece_89 rfl f_M_259 rfl (by first | exact ga G (by decide) rfl | assumption) (by first | assumption | (simp (disch := omega) only [pI_eq, pI_row, pI_col, va_up_self, va_up_ne, ne_eq, not_false_eq_true] <;> rfl) | rfl) ?_ <;> try (refine T_iconst (v := (nI 1)) (pc1 := 93) (pc := 92) k_M_readPiece_92 rfl (by decide) ?_ <;> try ((first | with_reducible refine T_iaddN (pc1 := 94) (pc := 93) k_M_readPiece_93 (by decide) ?_ | refine T_iadd (pc1 := 94) (pc := 93) k_M_readPiece_93 rfl ?_) <;> try (refine T_putI (pc1 := 97) (pc := 94) k_M_readPiece_94 rfl f_M_259 rfl (by first | exact ga G (by decide) rfl | assumption) (by first | rfl | decide | assumption) (by first | rfl | decide | assumption) ?_ <;> try ((first | refine T_aload_n (pc1 := 98) (pc := 97) k_M_readPiece_97 rfl rfl ?_ | refine T_aload_nN (pc1 := 98) (pc := 97) k_M_readPiece_97 rfl rfl ?_))))))))
          | refine T_dup (pc1 := 89) (pc := 88) k_M_readPiece_88 rfl rfl ?_
          | refine T_getV (pc1 := 92) (pc := 89) k_M_readPiece_89 rfl f_M_259 rfl (by first | exact ga G (by decide) rfl | assumption) (by first | assumption | (simp (disch := omega) only [pI_eq, pI_row, pI_col, va_up_self, va_up_ne, ne_eq, not_false_eq_true] <;> rfl) | rfl) ?_
          | refine T_iconst (v := (nI 1)) (pc1 := 93) (pc := 92) k_M_readPiece_92 rfl (by decide) ?_
          | with_reducible refine T_iaddN (pc1 := 94) (pc := 93) k_M_readPiece_93 (by decide) ?_
          | refine T_iadd (pc1 := 94) (pc := 93) k_M_readPiece_93 rfl ?_
          | refine T_putI (pc1 := 97) (pc := 94) k_M_readPiece_94 rfl f_M_259 rfl (by first | exact ga G (by decide) rfl | assumption) (by first | rfl | decide | assumption) (by first | rfl | decide | assumption) ?_
          | refine T_aload_n (pc1 := 98) (pc := 97) k_M_readPiece_97 rfl rfl ?_
          | refine T_aload_nN (pc1 := 98) (pc := 97) k_M_readPiece_97 rfl rfl ?_)
        refine T_cV (As := []) (d1 := dM 0 no (op + 1)) (pc1 := 101) (pc := 98) k_M_readPiece_98 rfl (by show 30 + _ + _ + _ < 30 + _ + _ + _; omega) (Nat.le_of_ble_eq_true rfl) rfl o_M_readOr l_M_262 rfl (ga G (by decide) rfl) rfl (IH0 f (by omega) no (op + 1) (nx T z p) _ _ hno (by omega) n1 nf nI0 nM (PMo_op hJ1P) (fun J2 hb hJ2 hJ2P => ?_) (fun J2 hb hJ2 hJ2P => ?_)) <;> try dsimp only [psh]
        · rw [hb, if_neg (by decide)] at hr
          obtain ⟨a1, a2, a3⟩ := q1
          repeat' (first
            | ((first | refine T_aload_n (pc1 := 102) (pc := 101) k_M_readPiece_101 rfl rfl ?_ | refine T_aload_nN (pc1 := 102) (pc := 101) k_M_readPiece_101 rfl rfl ?_) <;> try ((first | refine T_aload_n (pc1 := 103) (pc := 102) k_M_readPiece_102 rfl rfl ?_ | refine T_aload_nN (pc1 := 103) (pc := 102) k_M_readPiece_102 rfl rfl ?_) <;> try (refine T_bipush (v := (nI 41)) (pc1 := 105) (pc := 103) k_M_readPiece_103 rfl (by decide) ?_ <;> try ((refine T_cV (As := [_]) (d1 := 1) (pc1 := 108) (pc := 105) k_M_readPiece_105 rfl (by show _ < 30 + _ + _ + _; omega) (Nat.le_of_ble_eq_true rfl) rfl o_M_isSign l_M_243 rfl (by first | exact ga G (by decide) rfl | assumption) rfl (c_M_isSignO G okt (by decide) hJ2P a1 (fun s3 => ?_) (fun s3 => ?_)) <;> try dsimp only [psh])))))
            | refine T_aload_n (pc1 := 103) (pc := 102) k_M_readPiece_102 rfl rfl ?_
            | refine T_aload_nN (pc1 := 103) (pc := 102) k_M_readPiece_102 rfl rfl ?_
            | refine T_bipush (v := (nI 41)) (pc1 := 105) (pc := 103) k_M_readPiece_103 rfl (by decide) ?_
            | (refine T_cV (As := [_]) (d1 := 1) (pc1 := 108) (pc := 105) k_M_readPiece_105 rfl (by show _ < 30 + _ + _ + _; omega) (Nat.le_of_ble_eq_true rfl) rfl o_M_isSign l_M_243 rfl (by first | exact ga G (by decide) rfl | assumption) rfl (c_M_isSignO G okt (by decide) hJ2P a1 (fun s3 => ?_) (fun s3 => ?_)) <;> try dsimp only [psh]))
          · rw [if_pos s3] at hr
            (refine T_cV (As := [_]) (d1 := 4) (pc1 := 111) (pc := 108) k_M_readPiece_108 rfl (by show _ < 30 + _ + _ + _; omega) (Nat.le_of_ble_eq_true rfl) rfl o_M_must l_M_249 rfl (by first | exact ga G (by decide) rfl | assumption) rfl (c_M_must1 G okt hJ2P a1 (fun J3 hJ3 hJ3P => ?_)) <;> try dsimp only [psh])
            have g8 := hJ3P.2.2.2.2.2.2.2.1
            have sn : PMo T z key no op (nx T z (prs T z key f 0 no (op + 1) (nx T z p)).2) (pI J3 101 16 (nI (op + 1 - 1))) := PMo_op hJ3P
            repeat' (first
              | ((first | refine T_aload_n (pc1 := 112) (pc := 111) k_M_readPiece_111 rfl rfl ?_ | refine T_aload_nN (pc1 := 112) (pc := 111) k_M_readPiece_111 rfl rfl ?_) <;> try (refine T_dup (pc1 := 113) (pc := 112) k_M_readPiece_112 rfl rfl ?_ <;> try (refine T_getV (pc1 := 116) (pc := 113) k_M_readPiece_113 rfl f_M_259 rfl (by first | exact ga G (by decide) rfl | assumption) (by first | assumption | (simp (disch := omega) only [pI_eq, pI_row, pI_col, va_up_self, va_up_ne, ne_eq, not_false_eq_true] <;> rfl) | rfl) ?_ <;> try (refine T_iconst (v := (nI 1)) (pc1 := 117) (pc := 116) k_M_readPiece_116 rfl (by decide) ?_ <;> try ((first | with_reducible refine T_isubN (pc1 := 118) (pc := 117) k_M_readPiece_117 (by decide) (by omega) ?_ | refine T_isub (pc1 := 118) (pc := 117) k_M_readPiece_117 rfl ?_) <;> try (refine T_putI (pc1 := 121) (pc := 118) k_M_readPiece_118 rfl f_M_259 rfl (by first | exact ga G (by decide) rfl | assumption) (by first | rfl | decide | assumption) (by first | rfl | decide | assumption) ?_ <;> try (refine T_goto (tgt := 128) (pc := 121) k_M_readPiece_121 rfl ?_)))))))
              | ((first | refine T_aload_n (pc1 := 125) (pc := 124) k_M_readPiece_124 rfl rfl ?_ | refine T_aload_nN (pc1 := 125) (pc := 124) k_M_readPiece_124 rfl rfl ?_) <;> try ((refine T_cV (As := []) (d1 := 5) (pc1 := 128) (pc := 125) k_M_readPiece_125 rfl (by show _ < 30 + _ + _ + _; omega) (Nat.le_of_ble_eq_true rfl) rfl o_M_readLeaf l_M_265 rfl (by first | exact ga G (by decide) rfl | assumption) rfl (c_M_readLeafW G hF okt hk h hw (fun J hJ hJP => ?_)) <;> try dsimp only [psh])))
              | (refine T_retV (pc := 128) k_M_readPiece_128 rfl ?_)
              | refine T_dup (pc1 := 113) (pc := 112) k_M_readPiece_112 rfl rfl ?_
              | refine T_getV (pc1 := 116) (pc := 113) k_M_readPiece_113 rfl f_M_259 rfl (by first | exact ga G (by decide) rfl | assumption) (by first | assumption | (simp (disch := omega) only [pI_eq, pI_row, pI_col, va_up_self, va_up_ne, ne_eq, not_false_eq_true] <;> rfl) | rfl) ?_
              | refine T_iconst (v := (nI 1)) (pc1 := 117) (pc := 116) k_M_readPiece_116 rfl (by decide) ?_
              | with_reducible refine T_isubN (pc1 := 118) (pc := 117) k_M_readPiece_117 (by decide) (by omega) ?_
              | refine T_isub (pc1 := 118) (pc := 117) k_M_readPiece_117 rfl ?_
              | refine T_putI (pc1 := 121) (pc := 118) k_M_readPiece_118 rfl f_M_259 rfl (by first | exact ga G (by decide) rfl | assumption) (by first | rfl | decide | assumption) (by first | rfl | decide | assumption) ?_
              | refine T_goto (tgt := 128) (pc := 121) k_M_readPiece_121 rfl ?_
              | (refine T_cV (As := []) (d1 := 5) (pc1 := 128) (pc := 125) k_M_readPiece_125 rfl (by show _ < 30 + _ + _ + _; omega) (Nat.le_of_ble_eq_true rfl) rfl o_M_readLeaf l_M_265 rfl (by first | exact ga G (by decide) rfl | assumption) rfl (c_M_readLeafW G hF okt hk h hw (fun J hJ hJP => ?_)) <;> try dsimp only [psh]))
            subst hr
            exact k0 _ rfl (FrM_tr hJ1 (FrM_tr (FrM_tr (FrM_p FrM_rf (by decide)) hJ2) (FrM_tr hJ3 (FrM_p FrM_rf (by decide))))) sn
          · rw [if_neg (by rw [s3]; decide)] at hr
            (refine T_cV (As := [_]) (d1 := 4) (pc1 := 111) (pc := 108) k_M_readPiece_108 rfl (by show _ < 30 + _ + _ + _; omega) (Nat.le_of_ble_eq_true rfl) rfl o_M_must l_M_249 rfl (by first | exact ga G (by decide) rfl | assumption) rfl (c_M_must0 G hJ2P (fun J3 hJ3 hJ3P => ?_)) <;> try dsimp only [psh])
            repeat' (first
              | ((first | refine T_aload_n (pc1 := 112) (pc := 111) k_M_readPiece_111 rfl rfl ?_ | refine T_aload_nN (pc1 := 112) (pc := 111) k_M_readPiece_111 rfl rfl ?_) <;> try (refine T_dup (pc1 := 113) (pc := 112) k_M_readPiece_112 rfl rfl ?_ <;> try (refine T_getV (pc1 := 116) (pc := 113) k_M_readPiece_113 rfl f_M_259 rfl (by first | exact ga G (by decide) rfl | assumption) (by first | assumption | (simp (disch := omega) only [pI_eq, pI_row, pI_col, va_up_self, va_up_ne, ne_eq, not_false_eq_true] <;> rfl) | rfl) ?_ <;> try (refine T_iconst (v := (nI 1)) (pc1 := 117) (pc := 116) k_M_readPiece_116 rfl (by decide) ?_ <;> try ((first | with_reducible refine T_isubN (pc1 := 118) (pc := 117) k_M_readPiece_117 (by decide) (by omega) ?_ | refine T_isub (pc1 := 118) (pc := 117) k_M_readPiece_117 rfl ?_) <;> try (refine T_putI (pc1 := 121) (pc := 118) k_M_readPiece_118 rfl f_M_259 rfl (by first | exact ga G (by decide) rfl | assumption) (by first | rfl | decide | assumption) (by first | rfl | decide | assumption) ?_ <;> try (refine T_goto (tgt := 128) (pc := 121) k_M_readPiece_121 rfl ?_)))))))
              | ((first | refine T_aload_n (pc1 := 125) (pc := 124) k_M_readPiece_124 rfl rfl ?_ | refine T_aload_nN (pc1 := 125) (pc := 124) k_M_readPiece_124 rfl rfl ?_) <;> try ((refine T_cV (As := []) (d1 := 5) (pc1 := 128) (pc := 125) k_M_readPiece_125 rfl (by show _ < 30 + _ + _ + _; omega) (Nat.le_of_ble_eq_true rfl) rfl o_M_readLeaf l_M_265 rfl (by first | exact ga G (by decide) rfl | assumption) rfl (c_M_readLeafW G hF okt hk h hw (fun J hJ hJP => ?_)) <;> try dsimp only [psh])))
              | (refine T_retV (pc := 128) k_M_readPiece_128 rfl ?_)
              | refine T_dup (pc1 := 113) (pc := 112) k_M_readPiece_112 rfl rfl ?_
              | refine T_getV (pc1 := 116) (pc := 113) k_M_readPiece_113 rfl f_M_259 rfl (by first | exact ga G (by decide) rfl | assumption) (by first | assumption | (simp (disch := omega) only [pI_eq, pI_row, pI_col, va_up_self, va_up_ne, ne_eq, not_false_eq_true] <;> rfl) | rfl) ?_
              | refine T_iconst (v := (nI 1)) (pc1 := 117) (pc := 116) k_M_readPiece_116 rfl (by decide) ?_
              | with_reducible refine T_isubN (pc1 := 118) (pc := 117) k_M_readPiece_117 (by decide) (by omega) ?_
              | refine T_isub (pc1 := 118) (pc := 117) k_M_readPiece_117 rfl ?_
              | refine T_putI (pc1 := 121) (pc := 118) k_M_readPiece_118 rfl f_M_259 rfl (by first | exact ga G (by decide) rfl | assumption) (by first | rfl | decide | assumption) (by first | rfl | decide | assumption) ?_
              | refine T_goto (tgt := 128) (pc := 121) k_M_readPiece_121 rfl ?_
              | (refine T_cV (As := []) (d1 := 5) (pc1 := 128) (pc := 125) k_M_readPiece_125 rfl (by show _ < 30 + _ + _ + _; omega) (Nat.le_of_ble_eq_true rfl) rfl o_M_readLeaf l_M_265 rfl (by first | exact ga G (by decide) rfl | assumption) rfl (c_M_readLeafW G hF okt hk h hw (fun J hJ hJP => ?_)) <;> try dsimp only [psh]))
            subst hr
            exact k1 _ rfl (FrM_tr hJ1 (FrM_tr (FrM_tr (FrM_p FrM_rf (by decide)) hJ2) (FrM_tr hJ3 (FrM_p FrM_rf (by decide))))) (PMw_p hJ3P (by decide))
        · rw [hb, if_pos rfl] at hr
          repeat' (first
            | ((first | refine T_aload_n (pc1 := 102) (pc := 101) k_M_readPiece_101 rfl rfl ?_ | refine T_aload_nN (pc1 := 102) (pc := 101) k_M_readPiece_101 rfl rfl ?_) <;> try ((first | refine T_aload_n (pc1 := 103) (pc := 102) k_M_readPiece_102 rfl rfl ?_ | refine T_aload_nN (pc1 := 103) (pc := 102) k_M_readPiece_102 rfl rfl ?_) <;> try (refine T_bipush (v := (nI 41)) (pc1 := 105) (pc := 103) k_M_readPiece_103 rfl (by decide) ?_ <;> try ((refine T_cV (As := [_]) (d1 := 1) (pc1 := 108) (pc := 105) k_M_readPiece_105 rfl (by show _ < 30 + _ + _ + _; omega) (Nat.le_of_ble_eq_true rfl) rfl o_M_isSign l_M_243 rfl (by first | exact ga G (by decide) rfl | assumption) rfl (c_M_isSignW G hJ2P ?_) <;> try dsimp only [psh]) <;> try ((refine T_cV (As := [_]) (d1 := 4) (pc1 := 111) (pc := 108) k_M_readPiece_108 rfl (by show _ < 30 + _ + _ + _; omega) (Nat.le_of_ble_eq_true rfl) rfl o_M_must l_M_249 rfl (by first | exact ga G (by decide) rfl | assumption) rfl (c_M_mustw G hJ2P (fun J3 hJ3 hJ3P => ?_)) <;> try dsimp only [psh]) <;> try ((first | refine T_aload_n (pc1 := 112) (pc := 111) k_M_readPiece_111 rfl rfl ?_ | refine T_aload_nN (pc1 := 112) (pc := 111) k_M_readPiece_111 rfl rfl ?_) <;> try (refine T_dup (pc1 := 113) (pc := 112) k_M_readPiece_112 rfl rfl ?_ <;> try (refine T_getV (pc1 := 116) (pc := 113) k_M_readPiece_113 rfl f_M_259 rfl (by first | exact ga G (by decide) rfl | assumption) (by first | assumption | (simp (disch := omega) only [pI_eq, pI_row, pI_col, va_up_self, va_up_ne, ne_eq, not_false_eq_true] <;> rfl) | rfl) ?_ <;> try (refine T_iconst (v := (nI 1)) (pc1 := 117) (pc := 116) k_M_readPiece_116 rfl (by decide) ?_ <;> try ((first | with_reducible refine T_isubN (pc1 := 118) (pc := 117) k_M_readPiece_117 (by decide) (by omega) ?_ | refine T_isub (pc1 := 118) (pc := 117) k_M_readPiece_117 rfl ?_) <;> try (refine T_putI (pc1 := 121) (pc := 118) k_M_readPiece_118 rfl f_M_259 rfl (by first | exact ga G (by decide) rfl | assumption) (by first | rfl | decide | assumption) (by first | rfl | decide | assumption) ?_ <;> try (refine T_goto (tgt := 128) (pc := 121) k_M_readPiece_121 rfl ?_))))))))))))
            | ((first | refine T_aload_n (pc1 := 125) (pc := 124) k_M_readPiece_124 rfl rfl ?_ | refine T_aload_nN (pc1 := 125) (pc := 124) k_M_readPiece_124 rfl rfl ?_) <;> try ((refine T_cV (As := []) (d1 := 5) (pc1 := 128) (pc := 125) k_M_readPiece_125 rfl (by show _ < 30 + _ + _ + _; omega) (Nat.le_of_ble_eq_true rfl) rfl o_M_readLeaf l_M_265 rfl (by first | exact ga G (by decide) rfl | assumption) rfl (c_M_readLeafW G hF okt hk h hw (fun J hJ hJP => ?_)) <;> try dsimp only [psh])))
            | (refine T_retV (pc := 128) k_M_readPiece_128 rfl ?_)
            | refine T_aload_n (pc1 := 103) (pc := 102) k_M_readPiece_102 rfl rfl ?_
            | refine T_aload_nN (pc1 := 103) (pc := 102) k_M_readPiece_102 rfl rfl ?_
            | refine T_bipush (v := (nI 41)) (pc1 := 105) (pc := 103) k_M_readPiece_103 rfl (by decide) ?_
            | (refine T_cV (As := [_]) (d1 := 1) (pc1 := 108) (pc := 105) k_M_readPiece_105 rfl (by show _ < 30 + _ + _ + _; omega) (Nat.le_of_ble_eq_true rfl) rfl o_M_isSign l_M_243 rfl (by first | exact ga G (by decide) rfl | assumption) rfl (c_M_isSignW G hJ2P ?_) <;> try dsimp only [psh])
            | (refine T_cV (As := [_]) (d1 := 4) (pc1 := 111) (pc := 108) k_M_readPiece_108 rfl (by show _ < 30 + _ + _ + _; omega) (Nat.le_of_ble_eq_true rfl) rfl o_M_must l_M_249 rfl (by first | exact ga G (by decide) rfl | assumption) rfl (c_M_mustw G hJ2P (fun J3 hJ3 hJ3P => ?_)) <;> try dsimp only [psh])
            | refine T_aload_n (pc1 := 112) (pc := 111) k_M_readPiece_111 rfl rfl ?_
            | refine T_aload_nN (pc1 := 112) (pc := 111) k_M_readPiece_111 rfl rfl ?_
            | refine T_dup (pc1 := 113) (pc := 112) k_M_readPiece_112 rfl rfl ?_
            | refine T_getV (pc1 := 116) (pc := 113) k_M_readPiece_113 rfl f_M_259 rfl (by first | exact ga G (by decide) rfl | assumption) (by first | assumption | (simp (disch := omega) only [pI_eq, pI_row, pI_col, va_up_self, va_up_ne, ne_eq, not_false_eq_true] <;> rfl) | rfl) ?_
            | refine T_iconst (v := (nI 1)) (pc1 := 117) (pc := 116) k_M_readPiece_116 rfl (by decide) ?_
            | with_reducible refine T_isubN (pc1 := 118) (pc := 117) k_M_readPiece_117 (by decide) (by omega) ?_
            | refine T_isub (pc1 := 118) (pc := 117) k_M_readPiece_117 rfl ?_
            | refine T_putI (pc1 := 121) (pc := 118) k_M_readPiece_118 rfl f_M_259 rfl (by first | exact ga G (by decide) rfl | assumption) (by first | rfl | decide | assumption) (by first | rfl | decide | assumption) ?_
            | refine T_goto (tgt := 128) (pc := 121) k_M_readPiece_121 rfl ?_
            | (refine T_cV (As := []) (d1 := 5) (pc1 := 128) (pc := 125) k_M_readPiece_125 rfl (by show _ < 30 + _ + _ + _; omega) (Nat.le_of_ble_eq_true rfl) rfl o_M_readLeaf l_M_265 rfl (by first | exact ga G (by decide) rfl | assumption) rfl (c_M_readLeafW G hF okt hk h hw (fun J hJ hJP => ?_)) <;> try dsimp only [psh]))
          subst hr
          exact k1 _ rfl (FrM_tr hJ1 (FrM_tr (FrM_tr (FrM_p FrM_rf (by decide)) hJ2) (FrM_tr hJ3 (FrM_p FrM_rf (by decide))))) (PMw_p hJ3P (by decide))
      · rw [if_neg hn8] at hr
        repeat' (first
          | ((first | refine T_aload_n (pc1 := 70) (pc := 69) k_M_readPiece_69 rfl rfl ?_ | refine T_aload_nN (pc1 := 70) (pc := 69) k_M_readPiece_69 rfl rfl ?_) <;> try ((first | refine T_aload_n (pc1 := 71) (pc := 70) k_M_readPiece_70 rfl rfl ?_ | refine T_aload_nN (pc1 := 71) (pc := 70) k_M_readPiece_70 rfl rfl ?_) <;> try (refine T_getV (pc1 := 74) (pc := 71) k_M_readPiece_71 rfl f_M_259 rfl (by first | exact ga G (by decide) rfl | assumption) (by first | assumption | (simp (disch := omega) only [pI_eq, pI_row, pI_col, va_up_self, va_up_ne, ne_eq, not_false_eq_true] <;> rfl) | rfl) ?_ <;> try (refine T_bipush (v := (nI 8)) (pc1 := 76) (pc := 74) k_M_readPiece_74 rfl (by decide) ?_ <;> try ((first | (with_reducible refine T_icmp_geN (tgt := 83) (pc1 := 79) (pc := 76) k_M_readPiece_76 (by decide) (by decide) (by omega) (by omega) (fun hc => ?_) (fun hc => ?_) <;> first | (exfalso; omega) | skip) | refine T_icmp_ge_t (tgt := 83) (pc := 76) k_M_readPiece_76 rfl (by decide) ?_ | refine T_icmp_ge_f (tgt := 83) (pc1 := 79) (pc := 76) k_M_readPiece_76 rfl rfl (by decide) ?_ | refine T_icmp_ge (tgt := 83) (pc1 := 79) (pc := 76) k_M_readPiece_76 rfl rfl (fun hc => ?_) (fun hc => ?_)))))))
          | (refine T_iconst (v := (nI 1)) (pc1 := 80) (pc := 79) k_M_readPiece_79 rfl (by decide) ?_ <;> try (refine T_goto (tgt := 84) (pc := 80) k_M_readPiece_80 rfl ?_))
          | (refine T_iconst (v := (nI 0)) (pc1 := 84) (pc := 83) k_M_readPiece_83 rfl (by decide) ?_)
          | ((refine T_cV (As := [_]) (d1 := 4) (pc1 := 87) (pc := 84) k_M_readPiece_84 rfl (by show _ < 30 + _ + _ + _; omega) (Nat.le_of_ble_eq_true rfl) rfl o_M_must l_M_249 rfl (by first | exact ga G (by decide) rfl | assumption) rfl (c_M_must0 G hP (fun J1 hJ1 hJ1P => ?_)) <;> try dsimp only [psh]))
          | refine T_aload_n (pc1 := 71) (pc := 70) k_M_readPiece_70 rfl rfl ?_
          | refine T_aload_nN (pc1 := 71) (pc := 70) k_M_readPiece_70 rfl rfl ?_
          | refine T_getV (pc1 := 74) (pc := 71) k_M_readPiece_71 rfl f_M_259 rfl (by first | exact ga G (by decide) rfl | assumption) (by first | assumption | (simp (disch := omega) only [pI_eq, pI_row, pI_col, va_up_self, va_up_ne, ne_eq, not_false_eq_true] <;> rfl) | rfl) ?_
          | refine T_bipush (v := (nI 8)) (pc1 := 76) (pc := 74) k_M_readPiece_74 rfl (by decide) ?_
          | (with_reducible refine T_icmp_geN (tgt := 83) (pc1 := 79) (pc := 76) k_M_readPiece_76 (by decide) (by decide) (by omega) (by omega) (fun hc => ?_) (fun hc => ?_) <;> first | (exfalso; omega) | skip)
          | refine T_icmp_ge_t (tgt := 83) (pc := 76) k_M_readPiece_76 rfl (by decide) ?_
          | refine T_icmp_ge_f (tgt := 83) (pc1 := 79) (pc := 76) k_M_readPiece_76 rfl rfl (by decide) ?_
          | refine T_icmp_ge (tgt := 83) (pc1 := 79) (pc := 76) k_M_readPiece_76 rfl rfl (fun hc => ?_) (fun hc => ?_)
          | refine T_goto (tgt := 84) (pc := 80) k_M_readPiece_80 rfl ?_)
        all_goals try (exfalso; omega)
        repeat' (first
          | ((first | refine T_aload_n (pc1 := 88) (pc := 87) k_M_readPiece_87 rfl rfl ?_ | refine T_aload_nN (pc1 := 88) (pc := 87) k_M_readPiece_87 rfl rfl ?_) <;> try (refine T_dup (pc1 := 89) (pc := 88) k_M_readPiece_88 rfl rfl ?_ <;> try (refine T_getV (pc1 := 92) (pc := 89) k_M_readPiece_89 rfl f_M_259 rfl (by first | exact ga G (by decide) rfl | assumption) (by first | assumption | (simp (disch := omega) only [pI_eq, pI_row, pI_col, va_up_self, va_up_ne, ne_eq, not_false_eq_true] <;> rfl) | rfl) ?_ <;> try (refine T_iconst (v := (nI 1)) (pc1 := 93) (pc := 92) k_M_readPiece_92 rfl (by decide) ?_ <;> try ((first | with_reducible refine T_iaddN (pc1 := 94) (pc := 93) k_M_readPiece_93 (by decide) ?_ | refine T_iadd (pc1 := 94) (pc := 93) k_M_readPiece_93 rfl ?_) <;> try (refine T_putI (pc1 := 97) (pc := 94) k_M_readPiece_94 rfl f_M_259 rfl (by first | exact ga G (by decide) rfl | assumption) (by first | rfl | decide | assumption) (by first | rfl | decide | assumption) ?_ <;> try ((first | refine T_aload_n (pc1 := 98) (pc := 97) k_M_readPiece_97 rfl rfl ?_ | refine T_aload_nN (pc1 := 98) (pc := 97) k_M_readPiece_97 rfl rfl ?_))))))))
          | refine T_dup (pc1 := 89) (pc := 88) k_M_readPiece_88 rfl rfl ?_
          | refine T_getV (pc1 := 92) (pc := 89) k_M_readPiece_89 rfl f_M_259 rfl (by first | exact ga G (by decide) rfl | assumption) (by first | assumption | (simp (disch := omega) only [pI_eq, pI_row, pI_col, va_up_self, va_up_ne, ne_eq, not_false_eq_true] <;> rfl) | rfl) ?_
          | refine T_iconst (v := (nI 1)) (pc1 := 93) (pc := 92) k_M_readPiece_92 rfl (by decide) ?_
          | with_reducible refine T_iaddN (pc1 := 94) (pc := 93) k_M_readPiece_93 (by decide) ?_
          | refine T_iadd (pc1 := 94) (pc := 93) k_M_readPiece_93 rfl ?_
          | refine T_putI (pc1 := 97) (pc := 94) k_M_readPiece_94 rfl f_M_259 rfl (by first | exact ga G (by decide) rfl | assumption) (by first | rfl | decide | assumption) (by first | rfl | decide | assumption) ?_
          | refine T_aload_n (pc1 := 98) (pc := 97) k_M_readPiece_97 rfl rfl ?_
          | refine T_aload_nN (pc1 := 98) (pc := 97) k_M_readPiece_97 rfl rfl ?_)
        refine T_cV (As := []) (d1 := 25) (pc1 := 101) (pc := 98) k_M_readPiece_98 rfl (by show 25 < 30 + _ + _ + _; omega) (Nat.le_of_ble_eq_true rfl) rfl o_M_readOr l_M_262 rfl (ga G (by decide) rfl) rfl (c_M_readOrW G hF okt hk (PMw_p hJ1P (by decide)) hw (fun J2 hJ2 hJ2P => ?_)) <;> try dsimp only [psh]
        repeat' (first
          | ((first | refine T_aload_n (pc1 := 102) (pc := 101) k_M_readPiece_101 rfl rfl ?_ | refine T_aload_nN (pc1 := 102) (pc := 101) k_M_readPiece_101 rfl rfl ?_) <;> try ((first | refine T_aload_n (pc1 := 103) (pc := 102) k_M_readPiece_102 rfl rfl ?_ | refine T_aload_nN (pc1 := 103) (pc := 102) k_M_readPiece_102 rfl rfl ?_) <;> try (refine T_bipush (v := (nI 41)) (pc1 := 105) (pc := 103) k_M_readPiece_103 rfl (by decide) ?_ <;> try ((refine T_cV (As := [_]) (d1 := 1) (pc1 := 108) (pc := 105) k_M_readPiece_105 rfl (by show _ < 30 + _ + _ + _; omega) (Nat.le_of_ble_eq_true rfl) rfl o_M_isSign l_M_243 rfl (by first | exact ga G (by decide) rfl | assumption) rfl (c_M_isSignW G hJ2P ?_) <;> try dsimp only [psh]) <;> try ((refine T_cV (As := [_]) (d1 := 4) (pc1 := 111) (pc := 108) k_M_readPiece_108 rfl (by show _ < 30 + _ + _ + _; omega) (Nat.le_of_ble_eq_true rfl) rfl o_M_must l_M_249 rfl (by first | exact ga G (by decide) rfl | assumption) rfl (c_M_mustw G hJ2P (fun J3 hJ3 hJ3P => ?_)) <;> try dsimp only [psh]) <;> try ((first | refine T_aload_n (pc1 := 112) (pc := 111) k_M_readPiece_111 rfl rfl ?_ | refine T_aload_nN (pc1 := 112) (pc := 111) k_M_readPiece_111 rfl rfl ?_) <;> try (refine T_dup (pc1 := 113) (pc := 112) k_M_readPiece_112 rfl rfl ?_ <;> try (refine T_getV (pc1 := 116) (pc := 113) k_M_readPiece_113 rfl f_M_259 rfl (by first | exact ga G (by decide) rfl | assumption) (by first | assumption | (simp (disch := omega) only [pI_eq, pI_row, pI_col, va_up_self, va_up_ne, ne_eq, not_false_eq_true] <;> rfl) | rfl) ?_ <;> try (refine T_iconst (v := (nI 1)) (pc1 := 117) (pc := 116) k_M_readPiece_116 rfl (by decide) ?_ <;> try ((first | with_reducible refine T_isubN (pc1 := 118) (pc := 117) k_M_readPiece_117 (by decide) (by omega) ?_ | refine T_isub (pc1 := 118) (pc := 117) k_M_readPiece_117 rfl ?_) <;> try (refine T_putI (pc1 := 121) (pc := 118) k_M_readPiece_118 rfl f_M_259 rfl (by first | exact ga G (by decide) rfl | assumption) (by first | rfl | decide | assumption) (by first | rfl | decide | assumption) ?_ <;> try (refine T_goto (tgt := 128) (pc := 121) k_M_readPiece_121 rfl ?_))))))))))))
          | ((first | refine T_aload_n (pc1 := 125) (pc := 124) k_M_readPiece_124 rfl rfl ?_ | refine T_aload_nN (pc1 := 125) (pc := 124) k_M_readPiece_124 rfl rfl ?_) <;> try ((refine T_cV (As := []) (d1 := 5) (pc1 := 128) (pc := 125) k_M_readPiece_125 rfl (by show _ < 30 + _ + _ + _; omega) (Nat.le_of_ble_eq_true rfl) rfl o_M_readLeaf l_M_265 rfl (by first | exact ga G (by decide) rfl | assumption) rfl (c_M_readLeafW G hF okt hk h hw (fun J hJ hJP => ?_)) <;> try dsimp only [psh])))
          | (refine T_retV (pc := 128) k_M_readPiece_128 rfl ?_)
          | refine T_aload_n (pc1 := 103) (pc := 102) k_M_readPiece_102 rfl rfl ?_
          | refine T_aload_nN (pc1 := 103) (pc := 102) k_M_readPiece_102 rfl rfl ?_
          | refine T_bipush (v := (nI 41)) (pc1 := 105) (pc := 103) k_M_readPiece_103 rfl (by decide) ?_
          | (refine T_cV (As := [_]) (d1 := 1) (pc1 := 108) (pc := 105) k_M_readPiece_105 rfl (by show _ < 30 + _ + _ + _; omega) (Nat.le_of_ble_eq_true rfl) rfl o_M_isSign l_M_243 rfl (by first | exact ga G (by decide) rfl | assumption) rfl (c_M_isSignW G hJ2P ?_) <;> try dsimp only [psh])
          | (refine T_cV (As := [_]) (d1 := 4) (pc1 := 111) (pc := 108) k_M_readPiece_108 rfl (by show _ < 30 + _ + _ + _; omega) (Nat.le_of_ble_eq_true rfl) rfl o_M_must l_M_249 rfl (by first | exact ga G (by decide) rfl | assumption) rfl (c_M_mustw G hJ2P (fun J3 hJ3 hJ3P => ?_)) <;> try dsimp only [psh])
          | refine T_aload_n (pc1 := 112) (pc := 111) k_M_readPiece_111 rfl rfl ?_
          | refine T_aload_nN (pc1 := 112) (pc := 111) k_M_readPiece_111 rfl rfl ?_
          | refine T_dup (pc1 := 113) (pc := 112) k_M_readPiece_112 rfl rfl ?_
          | refine T_getV (pc1 := 116) (pc := 113) k_M_readPiece_113 rfl f_M_259 rfl (by first | exact ga G (by decide) rfl | assumption) (by first | assumption | (simp (disch := omega) only [pI_eq, pI_row, pI_col, va_up_self, va_up_ne, ne_eq, not_false_eq_true] <;> rfl) | rfl) ?_
          | refine T_iconst (v := (nI 1)) (pc1 := 117) (pc := 116) k_M_readPiece_116 rfl (by decide) ?_
          | with_reducible refine T_isubN (pc1 := 118) (pc := 117) k_M_readPiece_117 (by decide) (by omega) ?_
          | refine T_isub (pc1 := 118) (pc := 117) k_M_readPiece_117 rfl ?_
          | refine T_putI (pc1 := 121) (pc := 118) k_M_readPiece_118 rfl f_M_259 rfl (by first | exact ga G (by decide) rfl | assumption) (by first | rfl | decide | assumption) (by first | rfl | decide | assumption) ?_
          | refine T_goto (tgt := 128) (pc := 121) k_M_readPiece_121 rfl ?_
          | (refine T_cV (As := []) (d1 := 5) (pc1 := 128) (pc := 125) k_M_readPiece_125 rfl (by show _ < 30 + _ + _ + _; omega) (Nat.le_of_ble_eq_true rfl) rfl o_M_readLeaf l_M_265 rfl (by first | exact ga G (by decide) rfl | assumption) rfl (c_M_readLeafW G hF okt hk h hw (fun J hJ hJP => ?_)) <;> try dsimp only [psh]))
        subst hr
        exact k1 _ rfl (FrM_tr hJ1 (FrM_tr (FrM_tr (FrM_p FrM_rf (by decide)) hJ2) (FrM_tr hJ3 (FrM_p FrM_rf (by decide))))) (PMw_p hJ3P (by decide))
    · rw [if_neg (by rw [s1]; decide), if_neg (by rw [s2]; decide)] at hr
      first | refine T_aload_n (pc1 := 125) (pc := 124) k_M_readPiece_124 rfl rfl ?_ | refine T_aload_nN (pc1 := 125) (pc := 124) k_M_readPiece_124 rfl rfl ?_
      refine T_cV (As := []) (d1 := 5) (pc1 := 128) (pc := 125) k_M_readPiece_125 rfl (by show _ < 30 + _ + _ + _; omega) (Nat.le_of_ble_eq_true rfl) rfl o_M_readLeaf l_M_265 rfl (ga G (by decide) rfl) rfl (c_M_readLeafO G hF okt hk hP hw (by omega) (fun c J2 hc hJ2 hJ2P => ?_) (fun J2 hc hJ2 hJ2P => ?_)) <;> try dsimp only [psh]
      · rw [hc] at hr
        repeat' (first
          | (refine T_retV (pc := 128) k_M_readPiece_128 rfl ?_))
        subst hr
        exact k0 _ rfl hJ2 hJ2P
      · rw [hc] at hr
        repeat' (first
          | (refine T_retV (pc := 128) k_M_readPiece_128 rfl ?_))
        subst hr
        exact k1 _ rfl hJ2 hJ2P
theorem c_M_rd (G : GeoOK g) (hF : g.1.2.2.category = 1) (okt : okTp T z) (hk : key < 3) : ∀ f mode, mode ≤ 5 → RdC g T z key f mode := by
  have all : ∀ n f, f < n → ∀ mode, mode ≤ 5 → RdC g T z key f mode := by
    intro n
    induction n with
    | zero => intro f hf; exact absurd hf (Nat.not_lt_zero _)
    | succ n ih =>
      intro f hf
      have IH : ∀ mode, mode ≤ 5 → ∀ f', f' < f → RdC g T z key f' mode := fun mode hm f' hf' => ih f' (by omega) mode hm
      intro mode hm
      obtain rfl | rfl | rfl | rfl | rfl | rfl : mode = 0 ∨ mode = 1 ∨ mode = 2 ∨ mode = 3 ∨ mode = 4 ∨ mode = 5 := by omega
      · exact c_M_readOr_of G hF okt hk (IH 1 (by decide))
      · exact c_M_readAnd_of G hF okt hk (IH 2 (by decide))
      · exact c_M_readTest_of G hF okt hk (IH 3 (by decide))
      · exact c_M_readSum_of G hF okt hk (IH 4 (by decide))
      · exact c_M_readTerm_of G hF okt hk (IH 5 (by decide))
      · exact c_M_readPiece_of G hF okt hk (IH 5 (by decide)) (IH 0 (by decide))
  exact fun f mode hm => all (f + 1) f (Nat.lt_succ_self _) mode hm
end M24
