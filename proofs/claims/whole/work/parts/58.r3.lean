/-! The class reads, level by level. -/
section R3
variable {g : Geo} {T : Row} {z key : Nat}
abbrev dC (no op : Nat) : Nat := 40 + 2 * (8 - no) + 8 * (8 - op)
def RcL (g : Geo) (T : Row) (z key f m : Nat) : Prop := ∀ (no op : Nat) (p : PS) (I : IM) (K : Option Value → Geo → IM → Prop), no ≤ 8 → op ≤ 8 → wfP T z p → 7 * (z - pS p) + rkm m < f → okI (pC p) (pM p) (pV p) (nnOf key) → pM p ≤ pS p → PCo T z key no op p I → (∀ J, (prs T z key f m no op p).1 = false → fre rdf I J → PCo T z key no op (prs T z key f m no op p).2 J → K (some (.int (nI 1))) g J) → (∀ J, (prs T z key f m no op p).1 = true → fre rdf I J → J 66 1 = nI (pS (prs T z key f m no op p).2) → K (some (.int (nI 0))) g J) → Cl (40 + 2 * (8 - no) + 8 * (8 - op) + (6 - m)) M_Re_readsLevel [.ref 66, .int (nI m)] g I K
def RcP (g : Geo) (T : Row) (z key f : Nat) : Prop := ∀ (no op : Nat) (p : PS) (I : IM) (K : Option Value → Geo → IM → Prop), no ≤ 8 → op ≤ 8 → wfP T z p → 7 * (z - pS p) + rkm 5 < f → okI (pC p) (pM p) (pV p) (nnOf key) → pM p ≤ pS p → PCo T z key no op p I → (∀ J, (prs T z key f 5 no op p).1 = false → fre rdf I J → PCo T z key no op (prs T z key f 5 no op p).2 J → K (some (.int (nI 1))) g J) → (∀ J, (prs T z key f 5 no op p).1 = true → fre rdf I J → J 66 1 = nI (pS (prs T z key f 5 no op p).2) → K (some (.int (nI 0))) g J) → Cl (40 + 2 * (8 - no) + 8 * (8 - op) + 0) M_Re_readsPiece [.ref 66] g I K
theorem c_Re_level5 {f : Nat} (G : GeoOK g) (IH : RcP g T z key f) : RcL g T z key f 5 := by
  intro no op p I K hno hop hw hf hI hM hP k0 k1
  show Rl (40 + 2 * (8 - no) + 8 * (8 - op) + (6 - 5)) M_Re_readsLevel 0 [some (.ref 66), some (.int (nI 5)), none, none, none] [] g I K
  repeat' (first
    | (refine T_iload_n (pc1 := 1) (pc := 0) k_Re_readsLevel_0 rfl rfl ?_ <;> try (refine T_iconst (v := (nI 5)) (pc1 := 2) (pc := 1) k_Re_readsLevel_1 rfl (by decide) ?_ <;> try ((first | (with_reducible refine T_icmp_ltN (tgt := 10) (pc1 := 5) (pc := 2) k_Re_readsLevel_2 (by decide) (by decide) (by omega) (by omega) (fun hc => ?_) (fun hc => ?_) <;> first | (exfalso; omega) | skip) | refine T_icmp_lt_t (tgt := 10) (pc := 2) k_Re_readsLevel_2 rfl (by decide) ?_ | refine T_icmp_lt_f (tgt := 10) (pc1 := 5) (pc := 2) k_Re_readsLevel_2 rfl rfl (by decide) ?_ | refine T_icmp_lt (tgt := 10) (pc1 := 5) (pc := 2) k_Re_readsLevel_2 rfl rfl (fun hc => ?_) (fun hc => ?_)))))
    | ((first | refine T_aload_n (pc1 := 6) (pc := 5) k_Re_readsLevel_5 rfl rfl ?_ | refine T_aload_nN (pc1 := 6) (pc := 5) k_Re_readsLevel_5 rfl rfl ?_) <;> try ((refine T_cV (As := []) (d1 := 40 + 2 * (8 - no) + 8 * (8 - op) + 0) (pc1 := 9) (pc := 6) k_Re_readsLevel_6 rfl (by omega) (Nat.le_of_ble_eq_true rfl) rfl o_Re_readsPiece l_Re_79 rfl (ga G (by decide) rfl) rfl (IH no op p I _ hno hop hw hf hI hM hP (fun J hb hJ hJP => ?_) (fun J hb hJ hJP => ?_)) <;> try dsimp only [psh]) <;> try (refine T_retI (pc := 9) k_Re_readsLevel_9 rfl (by first | rfl | decide | assumption) ?_)))
    | refine T_iconst (v := (nI 5)) (pc1 := 2) (pc := 1) k_Re_readsLevel_1 rfl (by decide) ?_
    | (with_reducible refine T_icmp_ltN (tgt := 10) (pc1 := 5) (pc := 2) k_Re_readsLevel_2 (by decide) (by decide) (by omega) (by omega) (fun hc => ?_) (fun hc => ?_) <;> first | (exfalso; omega) | skip)
    | refine T_icmp_lt_t (tgt := 10) (pc := 2) k_Re_readsLevel_2 rfl (by decide) ?_
    | refine T_icmp_lt_f (tgt := 10) (pc1 := 5) (pc := 2) k_Re_readsLevel_2 rfl rfl (by decide) ?_
    | refine T_icmp_lt (tgt := 10) (pc1 := 5) (pc := 2) k_Re_readsLevel_2 rfl rfl (fun hc => ?_) (fun hc => ?_)
    | (refine T_cV (As := []) (d1 := 40 + 2 * (8 - no) + 8 * (8 - op) + 0) (pc1 := 9) (pc := 6) k_Re_readsLevel_6 rfl (by omega) (Nat.le_of_ble_eq_true rfl) rfl o_Re_readsPiece l_Re_79 rfl (ga G (by decide) rfl) rfl (IH no op p I _ hno hop hw hf hI hM hP (fun J hb hJ hJP => ?_) (fun J hb hJ hJP => ?_)) <;> try dsimp only [psh])
    | refine T_retI (pc := 9) k_Re_readsLevel_9 rfl (by first | rfl | decide | assumption) ?_)
  · exact k0 J hb hJ hJP
  · exact k1 J hb hJ hJP
set_option maxHeartbeats 4000000 in
theorem c_Re_level {f m : Nat} (hm : m < 5) (G : GeoOK g) (okt : okTp T z) (hk : key < 3) (IH : ∀ f', f' < f → RcL g T z key f' (m + 1)) : RcL g T z key f m := by
  intro no op p I K hno hop hw hf hI hM hP k0 k1
  show Rl (40 + 2 * (8 - no) + 8 * (8 - op) + (6 - m)) M_Re_readsLevel 0 [some (.ref 66), some (.int (nI m)), none, none, none] [] g I K
  have h96 := okt.1
  generalize hr : prs T z key f m no op p = r at k0 k1
  have loop : ∀ q, q < f → ∀ (p : PS) jn mj o4 (J : IM), wfP T z p → 7 * (z - pS p) + 6 < q → okI (pC p) (pM p) (pV p) (nnOf key) → 1 ≤ dp (pC p) (pM p) → pM p ≤ pS p → jn ≤ pS p → (m = 2 → mj = 1 ∧ jn = 0) → (m ≠ 2 → mj = 96) → PCo T z key no op p J → fre rdf I J → prs T z key q (10 + m) no op p = r → Rl (40 + 2 * (8 - no) + 8 * (8 - op) + (6 - m)) M_Re_readsLevel 36 [some (.ref 66), some (.int (nI m)), some (.int (nI mj)), some (.int (nI jn)), o4] [] g J K := by
    intro q
    induction q with
    | zero => intro hq p jn mj o4 J hw hf; exfalso; omega
    | succ q ih =>
      intro hq p jn mj o4 J hw hf hI hd hM hjn hm2 hmn hP hFr hr
      have w1 := hw.1
      have w2 := hw.2.1
      have hmj : mj = 1 ∨ mj = 96 := by
        by_cases c : m = 2
        · exact Or.inl (hm2 c).1
        · exact Or.inr (hmn c)
      rw [prs, if_neg (by omega), if_neg (by omega), show 10 + m - 10 = m by omega, show 10 + m - 9 = m + 1 by omega] at hr
      obtain ⟨n1, n2⟩ := nx_wf okt w2
      have n3 := n1.1
      have n4 := n1.2.1
      obtain ⟨⟨h0, h0'⟩, h1, h2, h3, h4, h5, h6, h7, h8, h9⟩ := id hP
      have none_ : sgOf T m p = none → K (some (.int (nI 1))) g J := by
        intro hs
        rw [hs] at hr
        dsimp only at hr
        subst hr
        exact k0 J rfl hFr hP
      refine T_iload_n (pc1 := 37) (pc := 36) k_Re_readsLevel_36 rfl rfl ?_
      repeat' (first
        | (refine T_iload_n (pc1 := 38) (pc := 37) k_Re_readsLevel_37 rfl rfl ?_ <;> try ((first | (with_reducible refine T_icmp_geN (tgt := 98) (pc1 := 41) (pc := 38) k_Re_readsLevel_38 (by decide) (by decide) (by omega) (by omega) (fun hc => ?_) (fun hc => ?_) <;> first | (exfalso; omega) | skip) | refine T_icmp_ge_t (tgt := 98) (pc := 38) k_Re_readsLevel_38 rfl (by decide) ?_ | refine T_icmp_ge_f (tgt := 98) (pc1 := 41) (pc := 38) k_Re_readsLevel_38 rfl rfl (by decide) ?_ | refine T_icmp_ge (tgt := 98) (pc1 := 41) (pc := 38) k_Re_readsLevel_38 rfl rfl (fun hc => ?_) (fun hc => ?_))))
        | ((first | refine T_aload_n (pc1 := 42) (pc := 41) k_Re_readsLevel_41 rfl rfl ?_ | refine T_aload_nN (pc1 := 42) (pc := 41) k_Re_readsLevel_41 rfl rfl ?_) <;> try (refine T_iload_n (pc1 := 43) (pc := 42) k_Re_readsLevel_42 rfl rfl ?_ <;> try ((refine T_cS (As := [_]) (d1 := 1) (pc1 := 46) (pc := 43) k_Re_readsLevel_43 rfl (by show _ < _ + 2 * _ + 8 * _ + _; omega) (Nat.le_of_ble_eq_true rfl) rfl o_Re_signsOf l_Re_82 rfl (c_Re_signsOf hm ?_) <;> try dsimp only [psh]) <;> try ((refine T_cV (As := [_]) (d1 := 5) (pc1 := 49) (pc := 46) k_Re_readsLevel_46 rfl (by show _ < 40 + _ + _ + _; omega) (Nat.le_of_ble_eq_true rfl) rfl o_Re_isSignOf l_Re_86 rfl (ga G (by decide) rfl) rfl (c_Re_isSignOf (j := 9 + m) G okt (by omega) hP hw (fun s3 si => ?_) (fun sn => ?_)) <;> try dsimp only [psh]) <;> try ((first | (with_reducible refine T_if_eqN (tgt := 98) (pc1 := 52) (pc := 49) k_Re_readsLevel_49 (by decide) (by decide) (by omega) (fun hc => ?_) (fun hc => ?_) <;> first | (exfalso; omega) | skip) | refine T_if_eq_t (tgt := 98) (pc := 49) k_Re_readsLevel_49 rfl (by decide) ?_ | refine T_if_eq_f (tgt := 98) (pc1 := 52) (pc := 49) k_Re_readsLevel_49 rfl rfl (by decide) ?_ | refine T_if_eq (tgt := 98) (pc1 := 52) (pc := 49) k_Re_readsLevel_49 rfl rfl (fun hc => ?_) (fun hc => ?_)))))))
        | (refine T_iconst (v := (nI 1)) (pc1 := 99) (pc := 98) k_Re_readsLevel_98 rfl (by decide) ?_ <;> try (refine T_retI (pc := 99) k_Re_readsLevel_99 rfl (by first | rfl | decide | assumption) ?_))
        | (with_reducible refine T_icmp_geN (tgt := 98) (pc1 := 41) (pc := 38) k_Re_readsLevel_38 (by decide) (by decide) (by omega) (by omega) (fun hc => ?_) (fun hc => ?_) <;> first | (exfalso; omega) | skip)
        | refine T_icmp_ge_t (tgt := 98) (pc := 38) k_Re_readsLevel_38 rfl (by decide) ?_
        | refine T_icmp_ge_f (tgt := 98) (pc1 := 41) (pc := 38) k_Re_readsLevel_38 rfl rfl (by decide) ?_
        | refine T_icmp_ge (tgt := 98) (pc1 := 41) (pc := 38) k_Re_readsLevel_38 rfl rfl (fun hc => ?_) (fun hc => ?_)
        | refine T_iload_n (pc1 := 43) (pc := 42) k_Re_readsLevel_42 rfl rfl ?_
        | (refine T_cS (As := [_]) (d1 := 1) (pc1 := 46) (pc := 43) k_Re_readsLevel_43 rfl (by show _ < _ + 2 * _ + 8 * _ + _; omega) (Nat.le_of_ble_eq_true rfl) rfl o_Re_signsOf l_Re_82 rfl (c_Re_signsOf hm ?_) <;> try dsimp only [psh])
        | (refine T_cV (As := [_]) (d1 := 5) (pc1 := 49) (pc := 46) k_Re_readsLevel_46 rfl (by show _ < 40 + _ + _ + _; omega) (Nat.le_of_ble_eq_true rfl) rfl o_Re_isSignOf l_Re_86 rfl (ga G (by decide) rfl) rfl (c_Re_isSignOf (j := 9 + m) G okt (by omega) hP hw (fun s3 si => ?_) (fun sn => ?_)) <;> try dsimp only [psh])
        | (with_reducible refine T_if_eqN (tgt := 98) (pc1 := 52) (pc := 49) k_Re_readsLevel_49 (by decide) (by decide) (by omega) (fun hc => ?_) (fun hc => ?_) <;> first | (exfalso; omega) | skip)
        | refine T_if_eq_t (tgt := 98) (pc := 49) k_Re_readsLevel_49 rfl (by decide) ?_
        | refine T_if_eq_f (tgt := 98) (pc1 := 52) (pc := 49) k_Re_readsLevel_49 rfl rfl (by decide) ?_
        | refine T_if_eq (tgt := 98) (pc1 := 52) (pc := 49) k_Re_readsLevel_49 rfl rfl (fun hc => ?_) (fun hc => ?_)
        | refine T_retI (pc := 99) k_Re_readsLevel_99 rfl (by first | rfl | decide | assumption) ?_)
      · -- as many as can be
        have c2 : m ≠ 2 := fun q => by have := hm2 q; omega
        have := hmn c2
        exact none_ (sg_none (Or.inl (fun q => by have := hw.2.2.1 (by omega); omega)))
      · -- a sign
        have w4 := hw.2.2.1 (by rw [s3]; decide)
        cases hs : sgOf T m p with
        | none =>
          exfalso
          unfold sgOf at hs
          rw [if_pos s3] at hs
          exact si ((idx_sg hm _).mpr hs)
        | some c =>
          rw [hs] at hr
          dsimp only at hr
          obtain ⟨qa, qb⟩ := sgC_op (sgOf_3 hs).2
          have ev : J 68 (pS p) = T (pS p) := h0' _ (by omega)
          have nI0 : okI (pC (nx T z p)) (pM (nx T z p)) (pV (nx T z p)) (nnOf key) := hI
          have nM : pM (nx T z p) ≤ pS (nx T z p) := by show pM p ≤ pS (nx T z p); omega
          have nf : 7 * (z - pS (nx T z p)) + rkm (m + 1) < q := by rw [rkm_le (by omega)]; omega
          have q1 := prs_ok okt hk q (m + 1) no op (nx T z p) (Or.inl (by omega)) n1 nf nI0 (by omega)
          repeat' (first
            | ((first | refine T_aload_n (pc1 := 53) (pc := 52) k_Re_readsLevel_52 rfl rfl ?_ | refine T_aload_nN (pc1 := 53) (pc := 52) k_Re_readsLevel_52 rfl rfl ?_) <;> try (refine T_getR (pc1 := 56) (pc := 53) k_Re_readsLevel_53 rfl f_Re_12 rfl (by first | assumption | exact ga G (by decide) rfl | exact lgA LG (by omega)) (by first | assumption | exact gr G (by decide) rfl | exact lgR LG (by omega)) ?_ <;> try (refine T_getR (pc1 := 59) (pc := 56) k_Re_readsLevel_56 rfl f_Re_89 rfl (by first | assumption | exact ga G (by decide) rfl | exact lgA LG (by omega)) (by first | assumption | exact gr G (by decide) rfl | exact lgR LG (by omega)) ?_ <;> try ((first | refine T_aload_n (pc1 := 60) (pc := 59) k_Re_readsLevel_59 rfl rfl ?_ | refine T_aload_nN (pc1 := 60) (pc := 59) k_Re_readsLevel_59 rfl rfl ?_) <;> try (refine T_getV (pc1 := 63) (pc := 60) k_Re_readsLevel_60 rfl f_Re_18 rfl (by first | assumption | exact ga G (by decide) rfl | exact lgA LG (by omega)) (by first | assumption | (simp (disch := omega) only [pI_eq, pI_row, pI_col, va_up_self, va_up_ne, ne_eq, not_false_eq_true] <;> rfl) | rfl) ?_ <;> try ((first | refine T_ialdN (pc1 := 64) (pc := 63) k_Re_readsLevel_63 rfl (by first | assumption | exact ga G (by decide) rfl | exact lgA LG (by omega)) (by omega) (by omega) (by first | assumption | (simp (disch := omega) only [pI_eq, pI_row, pI_col, va_up_self, va_up_ne, ne_eq, not_false_eq_true] <;> rfl) | rfl) ?_ | refine T_iald (pc1 := 64) (pc := 63) k_Re_readsLevel_63 rfl (by first | assumption | exact ga G (by decide) rfl | exact lgA LG (by omega)) (by assumption) ?_) <;> try (refine T_istore (pc1 := 66) (pc := 64) k_Re_readsLevel_64 rfl (Nat.le_of_ble_eq_true rfl) ?_ <;> try ((first | refine T_aload_n (pc1 := 67) (pc := 66) k_Re_readsLevel_66 rfl rfl ?_ | refine T_aload_nN (pc1 := 67) (pc := 66) k_Re_readsLevel_66 rfl rfl ?_) <;> try ((refine T_cV (As := []) (d1 := 2) (pc1 := 70) (pc := 67) k_Re_readsLevel_67 rfl (by show _ < _ + 2 * _ + 8 * _ + _; omega) (Nat.le_of_ble_eq_true rfl) rfl o_Re_next l_Re_47 rfl (by first | assumption | exact ga G (by decide) rfl | exact lgA LG (by omega)) rfl (c_Re_nextO G okt hP hw (fun J1 hJ1 hJ1P => ?_)) <;> try dsimp only [psh]) <;> try ((first | refine T_aload_n (pc1 := 71) (pc := 70) k_Re_readsLevel_70 rfl rfl ?_ | refine T_aload_nN (pc1 := 71) (pc := 70) k_Re_readsLevel_70 rfl rfl ?_) <;> try (refine T_iload_n (pc1 := 72) (pc := 71) k_Re_readsLevel_71 rfl rfl ?_ <;> try (refine T_iconst (v := (nI 1)) (pc1 := 73) (pc := 72) k_Re_readsLevel_72 rfl (by decide) ?_ <;> try ((first | with_reducible refine T_iaddN (pc1 := 74) (pc := 73) k_Re_readsLevel_73 (by decide) ?_ | refine T_iadd (pc1 := 74) (pc := 73) k_Re_readsLevel_73 rfl ?_))))))))))))))
            | refine T_getR (pc1 := 56) (pc := 53) k_Re_readsLevel_53 rfl f_Re_12 rfl (by first | assumption | exact ga G (by decide) rfl | exact lgA LG (by omega)) (by first | assumption | exact gr G (by decide) rfl | exact lgR LG (by omega)) ?_
            | refine T_getR (pc1 := 59) (pc := 56) k_Re_readsLevel_56 rfl f_Re_89 rfl (by first | assumption | exact ga G (by decide) rfl | exact lgA LG (by omega)) (by first | assumption | exact gr G (by decide) rfl | exact lgR LG (by omega)) ?_
            | refine T_aload_n (pc1 := 60) (pc := 59) k_Re_readsLevel_59 rfl rfl ?_
            | refine T_aload_nN (pc1 := 60) (pc := 59) k_Re_readsLevel_59 rfl rfl ?_
            | refine T_getV (pc1 := 63) (pc := 60) k_Re_readsLevel_60 rfl f_Re_18 rfl (by first | assumption | exact ga G (by decide) rfl | exact lgA LG (by omega)) (by first | assumption | (simp (disch := omega) only [pI_eq, pI_row, pI_col, va_up_self, va_up_ne, ne_eq, not_false_eq_true] <;> rfl) | rfl) ?_
            | refine T_ialdN (pc1 := 64) (pc := 63) k_Re_readsLevel_63 rfl (by first | assumption | exact ga G (by decide) rfl | exact lgA LG (by omega)) (by omega) (by omega) (by first | assumption | (simp (disch := omega) only [pI_eq, pI_row, pI_col, va_up_self, va_up_ne, ne_eq, not_false_eq_true] <;> rfl) | rfl) ?_
            | refine T_iald (pc1 := 64) (pc := 63) k_Re_readsLevel_63 rfl (by first | assumption | exact ga G (by decide) rfl | exact lgA LG (by omega)) (by assumption) ?_
            | refine T_istore (pc1 := 66) (pc := 64) k_Re_readsLevel_64 rfl (Nat.le_of_ble_eq_true rfl) ?_
            | refine T_aload_n (pc1 := 67) (pc := 66) k_Re_readsLevel_66 rfl rfl ?_
            | refine T_aload_nN (pc1 := 67) (pc := 66) k_Re_readsLevel_66 rfl rfl ?_
            | (refine T_cV (As := []) (d1 := 2) (pc1 := 70) (pc := 67) k_Re_readsLevel_67 rfl (by show _ < _ + 2 * _ + 8 * _ + _; omega) (Nat.le_of_ble_eq_true rfl) rfl o_Re_next l_Re_47 rfl (by first | assumption | exact ga G (by decide) rfl | exact lgA LG (by omega)) rfl (c_Re_nextO G okt hP hw (fun J1 hJ1 hJ1P => ?_)) <;> try dsimp only [psh])
            | refine T_aload_n (pc1 := 71) (pc := 70) k_Re_readsLevel_70 rfl rfl ?_
            | refine T_aload_nN (pc1 := 71) (pc := 70) k_Re_readsLevel_70 rfl rfl ?_
            | refine T_iload_n (pc1 := 72) (pc := 71) k_Re_readsLevel_71 rfl rfl ?_
            | refine T_iconst (v := (nI 1)) (pc1 := 73) (pc := 72) k_Re_readsLevel_72 rfl (by decide) ?_
            | with_reducible refine T_iaddN (pc1 := 74) (pc := 73) k_Re_readsLevel_73 (by decide) ?_
            | refine T_iadd (pc1 := 74) (pc := 73) k_Re_readsLevel_73 rfl ?_)
          repeat' (first
            | ((refine T_cV (As := [_]) (d1 := 40 + 2 * (8 - no) + 8 * (8 - op) + (6 - (m + 1))) (pc1 := 77) (pc := 74) k_Re_readsLevel_74 rfl (by omega) (Nat.le_of_ble_eq_true rfl) rfl o_Re_readsLevel l_Re_54 rfl (ga G (by decide) rfl) rfl (IH q (by omega) no op (nx T z p) J1 _ hno hop n1 nf nI0 nM hJ1P (fun J2 hb hJ2 hJ2P => ?_) (fun J2 hb hJ2 hJ2P => ?_)) <;> try dsimp only [psh]) <;> try ((first | (with_reducible refine T_if_neN (tgt := 82) (pc1 := 80) (pc := 77) k_Re_readsLevel_77 (by decide) (by decide) (by omega) (fun hc => ?_) (fun hc => ?_) <;> first | (exfalso; omega) | skip) | refine T_if_ne_t (tgt := 82) (pc := 77) k_Re_readsLevel_77 rfl (by decide) ?_ | refine T_if_ne_f (tgt := 82) (pc1 := 80) (pc := 77) k_Re_readsLevel_77 rfl rfl (by decide) ?_ | refine T_if_ne (tgt := 82) (pc1 := 80) (pc := 77) k_Re_readsLevel_77 rfl rfl (fun hc => ?_) (fun hc => ?_))))
            | (refine T_iconst (v := (nI 0)) (pc1 := 81) (pc := 80) k_Re_readsLevel_80 rfl (by decide) ?_ <;> try (refine T_retI (pc := 81) k_Re_readsLevel_81 rfl (by first | rfl | decide | assumption) ?_))
            | (with_reducible refine T_if_neN (tgt := 82) (pc1 := 80) (pc := 77) k_Re_readsLevel_77 (by decide) (by decide) (by omega) (fun hc => ?_) (fun hc => ?_) <;> first | (exfalso; omega) | skip)
            | refine T_if_ne_t (tgt := 82) (pc := 77) k_Re_readsLevel_77 rfl (by decide) ?_
            | refine T_if_ne_f (tgt := 82) (pc1 := 80) (pc := 77) k_Re_readsLevel_77 rfl rfl (by decide) ?_
            | refine T_if_ne (tgt := 82) (pc1 := 80) (pc := 77) k_Re_readsLevel_77 rfl rfl (fun hc => ?_) (fun hc => ?_)
            | refine T_retI (pc := 81) k_Re_readsLevel_81 rfl (by first | rfl | decide | assumption) ?_)
          · rw [hb, if_neg (by decide)] at hr
            obtain ⟨a1, a2, a3⟩ := q1
            obtain ⟨b1, b2, b3, b4, b5⟩ := a3 hb
            have b1 := b1 (by omega)
            rw [if_pos (by omega)] at b5
            have b5 : dp (pC (prs T z key q (m + 1) no op (nx T z p)).2) (pM (prs T z key q (m + 1) no op (nx T z p)).2) = dp (pC p) (pM p) + 1 := b5
            have b3 : pM (prs T z key q (m + 1) no op (nx T z p)).2 + pS (nx T z p) ≤ pM p + pS (prs T z key q (m + 1) no op (nx T z p)).2 := b3
            generalize (prs T z key q (m + 1) no op (nx T z p)).2 = p1 at *
            have a5 := a1.1
            have a6 := a1.2.1
            obtain ⟨o1, o2⟩ := okI_two b4 qa qb (by omega)
            have frJ := fr_tr hFr (fr_tr hJ1 hJ2)
            repeat' (first
              | ((first | refine T_aload_n (pc1 := 83) (pc := 82) k_Re_readsLevel_82 rfl rfl ?_ | refine T_aload_nN (pc1 := 83) (pc := 82) k_Re_readsLevel_82 rfl rfl ?_) <;> try (refine T_sipush (v := (-1000)) (pc1 := 86) (pc := 83) k_Re_readsLevel_83 rfl (by decide) ?_ <;> try (refine T_iload (pc1 := 88) (pc := 86) k_Re_readsLevel_86 rfl rfl ?_ <;> try ((refine T_isub (pc1 := 89) (pc := 88) k_Re_readsLevel_88 rfl ?_; rw [sgC_tr (sgOf_3 hs).2]) <;> try ((refine T_cV (As := [_]) (d1 := 1) (pc1 := 92) (pc := 89) k_Re_readsLevel_89 rfl (by show _ < _ + 2 * _ + 8 * _ + _; omega) (Nat.le_of_ble_eq_true rfl) rfl o_Re_addCode l_Re_92 rfl (by first | assumption | exact ga G (by decide) rfl | exact lgA LG (by omega)) rfl (c_Re_addCode G hJ2P (by omega) rfl (fun J3 hJ3 hJ3P => ?_)) <;> try dsimp only [psh]) <;> try ((first | refine T_iincN (b := 1) (pc1 := 95) (pc := 92) k_Re_readsLevel_92 rfl rfl (by decide) ?_ | refine T_iinc (v := (nI 1)) (pc1 := 95) (pc := 92) k_Re_readsLevel_92 rfl rfl (by decide) ?_) <;> try (refine T_goto (tgt := 36) (pc := 95) k_Re_readsLevel_95 rfl ?_)))))))
              | refine T_sipush (v := (-1000)) (pc1 := 86) (pc := 83) k_Re_readsLevel_83 rfl (by decide) ?_
              | refine T_iload (pc1 := 88) (pc := 86) k_Re_readsLevel_86 rfl rfl ?_
              | (refine T_isub (pc1 := 89) (pc := 88) k_Re_readsLevel_88 rfl ?_; rw [sgC_tr (sgOf_3 hs).2])
              | (refine T_cV (As := [_]) (d1 := 1) (pc1 := 92) (pc := 89) k_Re_readsLevel_89 rfl (by show _ < _ + 2 * _ + 8 * _ + _; omega) (Nat.le_of_ble_eq_true rfl) rfl o_Re_addCode l_Re_92 rfl (by first | assumption | exact ga G (by decide) rfl | exact lgA LG (by omega)) rfl (c_Re_addCode G hJ2P (by omega) rfl (fun J3 hJ3 hJ3P => ?_)) <;> try dsimp only [psh])
              | refine T_iincN (b := 1) (pc1 := 95) (pc := 92) k_Re_readsLevel_92 rfl rfl (by decide) ?_
              | refine T_iinc (v := (nI 1)) (pc1 := 95) (pc := 92) k_Re_readsLevel_92 rfl rfl (by decide) ?_
              | refine T_goto (tgt := 36) (pc := 95) k_Re_readsLevel_95 rfl ?_)
            by_cases c2 : m = 2
            · rw [if_pos (by omega)] at hr
              subst hr
              have k0 := k0 J3 rfl (fr_tr frJ hJ3) hJ3P
              obtain ⟨rfl, rfl⟩ := hm2 c2
              repeat' (first
                | (refine T_iload_n (pc1 := 37) (pc := 36) k_Re_readsLevel_36 rfl rfl ?_ <;> try (refine T_iload_n (pc1 := 38) (pc := 37) k_Re_readsLevel_37 rfl rfl ?_ <;> try ((first | (with_reducible refine T_icmp_geN (tgt := 98) (pc1 := 41) (pc := 38) k_Re_readsLevel_38 (by decide) (by decide) (by omega) (by omega) (fun hc => ?_) (fun hc => ?_) <;> first | (exfalso; omega) | skip) | refine T_icmp_ge_t (tgt := 98) (pc := 38) k_Re_readsLevel_38 rfl (by decide) ?_ | refine T_icmp_ge_f (tgt := 98) (pc1 := 41) (pc := 38) k_Re_readsLevel_38 rfl rfl (by decide) ?_ | refine T_icmp_ge (tgt := 98) (pc1 := 41) (pc := 38) k_Re_readsLevel_38 rfl rfl (fun hc => ?_) (fun hc => ?_)))))
                | (refine T_iconst (v := (nI 1)) (pc1 := 99) (pc := 98) k_Re_readsLevel_98 rfl (by decide) ?_ <;> try (refine T_retI (pc := 99) k_Re_readsLevel_99 rfl (by first | rfl | decide | assumption) ?_))
                | refine T_iload_n (pc1 := 38) (pc := 37) k_Re_readsLevel_37 rfl rfl ?_
                | (with_reducible refine T_icmp_geN (tgt := 98) (pc1 := 41) (pc := 38) k_Re_readsLevel_38 (by decide) (by decide) (by omega) (by omega) (fun hc => ?_) (fun hc => ?_) <;> first | (exfalso; omega) | skip)
                | refine T_icmp_ge_t (tgt := 98) (pc := 38) k_Re_readsLevel_38 rfl (by decide) ?_
                | refine T_icmp_ge_f (tgt := 98) (pc1 := 41) (pc := 38) k_Re_readsLevel_38 rfl rfl (by decide) ?_
                | refine T_icmp_ge (tgt := 98) (pc1 := 41) (pc := 38) k_Re_readsLevel_38 rfl rfl (fun hc => ?_) (fun hc => ?_)
                | refine T_retI (pc := 99) k_Re_readsLevel_99 rfl (by first | rfl | decide | assumption) ?_)
              all_goals first | exact k0 | (exfalso; omega)
            · rw [if_neg (by omega)] at hr
              exact ih (by omega) (ps1 p1 c) (jn + 1) mj _ J3 a1 (by show 7 * (z - pS p1) + 6 < q; omega) o1 (by show 1 ≤ dp (va_up (pC p1) (pM p1) _) (pM p1 + 1); rw [o2]; omega) (by show pM p1 + 1 ≤ pS p1; omega) (by show jn + 1 ≤ pS p1; omega) (fun q => absurd q c2) hmn hJ3P (fr_tr frJ hJ3) hr
          · rw [hb, if_pos rfl] at hr
            subst hr
            exact k1 J2 rfl (fr_tr hFr (fr_tr hJ1 hJ2)) hJ2P
      · -- none
        refine none_ (sg_none ?_)
        exact sn.imp id (fun q => (idx_sg hm _).mp q)
  cases f with
  | zero => exfalso; omega
  | succ f =>
    rw [prs, if_pos hm] at hr
    rw [rkm_le (by omega)] at hf
    have nf : 7 * (z - pS p) + rkm (m + 1) < f := by rw [rkm_le (by omega)]; omega
    have q1 := prs_ok okt hk f (m + 1) no op p (Or.inl (by omega)) hw nf hI (by omega)
    repeat' (first
      | (refine T_iload_n (pc1 := 1) (pc := 0) k_Re_readsLevel_0 rfl rfl ?_ <;> try (refine T_iconst (v := (nI 5)) (pc1 := 2) (pc := 1) k_Re_readsLevel_1 rfl (by decide) ?_ <;> try ((first | (with_reducible refine T_icmp_ltN (tgt := 10) (pc1 := 5) (pc := 2) k_Re_readsLevel_2 (by decide) (by decide) (by omega) (by omega) (fun hc => ?_) (fun hc => ?_) <;> first | (exfalso; omega) | skip) | refine T_icmp_lt_t (tgt := 10) (pc := 2) k_Re_readsLevel_2 rfl (by decide) ?_ | refine T_icmp_lt_f (tgt := 10) (pc1 := 5) (pc := 2) k_Re_readsLevel_2 rfl rfl (by decide) ?_ | refine T_icmp_lt (tgt := 10) (pc1 := 5) (pc := 2) k_Re_readsLevel_2 rfl rfl (fun hc => ?_) (fun hc => ?_)))))
      | ((first | refine T_aload_n (pc1 := 11) (pc := 10) k_Re_readsLevel_10 rfl rfl ?_ | refine T_aload_nN (pc1 := 11) (pc := 10) k_Re_readsLevel_10 rfl rfl ?_) <;> try (refine T_iload_n (pc1 := 12) (pc := 11) k_Re_readsLevel_11 rfl rfl ?_ <;> try (refine T_iconst (v := (nI 1)) (pc1 := 13) (pc := 12) k_Re_readsLevel_12 rfl (by decide) ?_ <;> try ((first | with_reducible refine T_iaddN (pc1 := 14) (pc := 13) k_Re_readsLevel_13 (by decide) ?_ | refine T_iadd (pc1 := 14) (pc := 13) k_Re_readsLevel_13 rfl ?_) <;> try ((refine T_cV (As := [_]) (d1 := 40 + 2 * (8 - no) + 8 * (8 - op) + (6 - (m + 1))) (pc1 := 17) (pc := 14) k_Re_readsLevel_14 rfl (by omega) (Nat.le_of_ble_eq_true rfl) rfl o_Re_readsLevel l_Re_54 rfl (ga G (by decide) rfl) rfl (IH f (by omega) no op p I _ hno hop hw nf hI hM hP (fun J2 hb hJ2 hJ2P => ?_) (fun J2 hb hJ2 hJ2P => ?_)) <;> try dsimp only [psh]) <;> try ((first | (with_reducible refine T_if_neN (tgt := 22) (pc1 := 20) (pc := 17) k_Re_readsLevel_17 (by decide) (by decide) (by omega) (fun hc => ?_) (fun hc => ?_) <;> first | (exfalso; omega) | skip) | refine T_if_ne_t (tgt := 22) (pc := 17) k_Re_readsLevel_17 rfl (by decide) ?_ | refine T_if_ne_f (tgt := 22) (pc1 := 20) (pc := 17) k_Re_readsLevel_17 rfl rfl (by decide) ?_ | refine T_if_ne (tgt := 22) (pc1 := 20) (pc := 17) k_Re_readsLevel_17 rfl rfl (fun hc => ?_) (fun hc => ?_))))))))
      | (refine T_iconst (v := (nI 0)) (pc1 := 21) (pc := 20) k_Re_readsLevel_20 rfl (by decide) ?_ <;> try (refine T_retI (pc := 21) k_Re_readsLevel_21 rfl (by first | rfl | decide | assumption) ?_))
      | refine T_iconst (v := (nI 5)) (pc1 := 2) (pc := 1) k_Re_readsLevel_1 rfl (by decide) ?_
      | (with_reducible refine T_icmp_ltN (tgt := 10) (pc1 := 5) (pc := 2) k_Re_readsLevel_2 (by decide) (by decide) (by omega) (by omega) (fun hc => ?_) (fun hc => ?_) <;> first | (exfalso; omega) | skip)
      | refine T_icmp_lt_t (tgt := 10) (pc := 2) k_Re_readsLevel_2 rfl (by decide) ?_
      | refine T_icmp_lt_f (tgt := 10) (pc1 := 5) (pc := 2) k_Re_readsLevel_2 rfl rfl (by decide) ?_
      | refine T_icmp_lt (tgt := 10) (pc1 := 5) (pc := 2) k_Re_readsLevel_2 rfl rfl (fun hc => ?_) (fun hc => ?_)
      | refine T_iload_n (pc1 := 12) (pc := 11) k_Re_readsLevel_11 rfl rfl ?_
      | refine T_iconst (v := (nI 1)) (pc1 := 13) (pc := 12) k_Re_readsLevel_12 rfl (by decide) ?_
      | with_reducible refine T_iaddN (pc1 := 14) (pc := 13) k_Re_readsLevel_13 (by decide) ?_
      | refine T_iadd (pc1 := 14) (pc := 13) k_Re_readsLevel_13 rfl ?_
      | (refine T_cV (As := [_]) (d1 := 40 + 2 * (8 - no) + 8 * (8 - op) + (6 - (m + 1))) (pc1 := 17) (pc := 14) k_Re_readsLevel_14 rfl (by omega) (Nat.le_of_ble_eq_true rfl) rfl o_Re_readsLevel l_Re_54 rfl (ga G (by decide) rfl) rfl (IH f (by omega) no op p I _ hno hop hw nf hI hM hP (fun J2 hb hJ2 hJ2P => ?_) (fun J2 hb hJ2 hJ2P => ?_)) <;> try dsimp only [psh])
      | (with_reducible refine T_if_neN (tgt := 22) (pc1 := 20) (pc := 17) k_Re_readsLevel_17 (by decide) (by decide) (by omega) (fun hc => ?_) (fun hc => ?_) <;> first | (exfalso; omega) | skip)
      | refine T_if_ne_t (tgt := 22) (pc := 17) k_Re_readsLevel_17 rfl (by decide) ?_
      | refine T_if_ne_f (tgt := 22) (pc1 := 20) (pc := 17) k_Re_readsLevel_17 rfl rfl (by decide) ?_
      | refine T_if_ne (tgt := 22) (pc1 := 20) (pc := 17) k_Re_readsLevel_17 rfl rfl (fun hc => ?_) (fun hc => ?_)
      | refine T_retI (pc := 21) k_Re_readsLevel_21 rfl (by first | rfl | decide | assumption) ?_)
    all_goals try (exfalso; omega)
    · rw [hb, if_neg (by decide)] at hr
      obtain ⟨a1, a2, a3⟩ := q1
      obtain ⟨b1, b2, b3, b4, b5⟩ := a3 hb
      have b1 := b1 (by omega)
      rw [if_pos (by omega)] at b5
      have a5 := a1.1
      have a6 := a1.2.1
      by_cases c2 : m = 2
      · have l0 := loop f (by omega) _ 0 1 none J2 a1 (by omega) b4 (by omega) (by omega) (by omega) (fun _ => ⟨rfl, rfl⟩) (fun q => absurd c2 q) hJ2P hJ2 hr
        repeat' (first
          | (refine T_iload_n (pc1 := 23) (pc := 22) k_Re_readsLevel_22 rfl rfl ?_ <;> try (refine T_iconst (v := (nI 2)) (pc1 := 24) (pc := 23) k_Re_readsLevel_23 rfl (by decide) ?_ <;> try ((first | (with_reducible refine T_icmp_neN (tgt := 31) (pc1 := 27) (pc := 24) k_Re_readsLevel_24 (by decide) (by decide) (by omega) (by omega) (fun hc => ?_) (fun hc => ?_) <;> first | (exfalso; omega) | skip) | refine T_icmp_ne_t (tgt := 31) (pc := 24) k_Re_readsLevel_24 rfl (by decide) ?_ | refine T_icmp_ne_f (tgt := 31) (pc1 := 27) (pc := 24) k_Re_readsLevel_24 rfl rfl (by decide) ?_ | refine T_icmp_ne (tgt := 31) (pc1 := 27) (pc := 24) k_Re_readsLevel_24 rfl rfl (fun hc => ?_) (fun hc => ?_)))))
          | (refine T_iconst (v := (nI 1)) (pc1 := 28) (pc := 27) k_Re_readsLevel_27 rfl (by decide) ?_ <;> try (refine T_goto (tgt := 33) (pc := 28) k_Re_readsLevel_28 rfl ?_))
          | (refine T_bipush (v := (nI 96)) (pc1 := 33) (pc := 31) k_Re_readsLevel_31 rfl (by decide) ?_)
          | (refine T_istore_n (pc1 := 34) (pc := 33) k_Re_readsLevel_33 rfl (Nat.le_of_ble_eq_true rfl) ?_ <;> try (refine T_iconst (v := (nI 0)) (pc1 := 35) (pc := 34) k_Re_readsLevel_34 rfl (by decide) ?_ <;> try (refine T_istore_n (pc1 := 36) (pc := 35) k_Re_readsLevel_35 rfl (Nat.le_of_ble_eq_true rfl) ?_)))
          | refine T_iconst (v := (nI 2)) (pc1 := 24) (pc := 23) k_Re_readsLevel_23 rfl (by decide) ?_
          | (with_reducible refine T_icmp_neN (tgt := 31) (pc1 := 27) (pc := 24) k_Re_readsLevel_24 (by decide) (by decide) (by omega) (by omega) (fun hc => ?_) (fun hc => ?_) <;> first | (exfalso; omega) | skip)
          | refine T_icmp_ne_t (tgt := 31) (pc := 24) k_Re_readsLevel_24 rfl (by decide) ?_
          | refine T_icmp_ne_f (tgt := 31) (pc1 := 27) (pc := 24) k_Re_readsLevel_24 rfl rfl (by decide) ?_
          | refine T_icmp_ne (tgt := 31) (pc1 := 27) (pc := 24) k_Re_readsLevel_24 rfl rfl (fun hc => ?_) (fun hc => ?_)
          | refine T_goto (tgt := 33) (pc := 28) k_Re_readsLevel_28 rfl ?_
          | refine T_iconst (v := (nI 0)) (pc1 := 35) (pc := 34) k_Re_readsLevel_34 rfl (by decide) ?_
          | refine T_istore_n (pc1 := 36) (pc := 35) k_Re_readsLevel_35 rfl (Nat.le_of_ble_eq_true rfl) ?_)
        all_goals first | exact l0 | (exfalso; omega)
      · have l0 := loop f (by omega) _ 0 96 none J2 a1 (by omega) b4 (by omega) (by omega) (by omega) (fun q => absurd q c2) (fun _ => rfl) hJ2P hJ2 hr
        repeat' (first
          | (refine T_iload_n (pc1 := 23) (pc := 22) k_Re_readsLevel_22 rfl rfl ?_ <;> try (refine T_iconst (v := (nI 2)) (pc1 := 24) (pc := 23) k_Re_readsLevel_23 rfl (by decide) ?_ <;> try ((first | (with_reducible refine T_icmp_neN (tgt := 31) (pc1 := 27) (pc := 24) k_Re_readsLevel_24 (by decide) (by decide) (by omega) (by omega) (fun hc => ?_) (fun hc => ?_) <;> first | (exfalso; omega) | skip) | refine T_icmp_ne_t (tgt := 31) (pc := 24) k_Re_readsLevel_24 rfl (by decide) ?_ | refine T_icmp_ne_f (tgt := 31) (pc1 := 27) (pc := 24) k_Re_readsLevel_24 rfl rfl (by decide) ?_ | refine T_icmp_ne (tgt := 31) (pc1 := 27) (pc := 24) k_Re_readsLevel_24 rfl rfl (fun hc => ?_) (fun hc => ?_)))))
          | (refine T_iconst (v := (nI 1)) (pc1 := 28) (pc := 27) k_Re_readsLevel_27 rfl (by decide) ?_ <;> try (refine T_goto (tgt := 33) (pc := 28) k_Re_readsLevel_28 rfl ?_))
          | (refine T_bipush (v := (nI 96)) (pc1 := 33) (pc := 31) k_Re_readsLevel_31 rfl (by decide) ?_)
          | (refine T_istore_n (pc1 := 34) (pc := 33) k_Re_readsLevel_33 rfl (Nat.le_of_ble_eq_true rfl) ?_ <;> try (refine T_iconst (v := (nI 0)) (pc1 := 35) (pc := 34) k_Re_readsLevel_34 rfl (by decide) ?_ <;> try (refine T_istore_n (pc1 := 36) (pc := 35) k_Re_readsLevel_35 rfl (Nat.le_of_ble_eq_true rfl) ?_)))
          | refine T_iconst (v := (nI 2)) (pc1 := 24) (pc := 23) k_Re_readsLevel_23 rfl (by decide) ?_
          | (with_reducible refine T_icmp_neN (tgt := 31) (pc1 := 27) (pc := 24) k_Re_readsLevel_24 (by decide) (by decide) (by omega) (by omega) (fun hc => ?_) (fun hc => ?_) <;> first | (exfalso; omega) | skip)
          | refine T_icmp_ne_t (tgt := 31) (pc := 24) k_Re_readsLevel_24 rfl (by decide) ?_
          | refine T_icmp_ne_f (tgt := 31) (pc1 := 27) (pc := 24) k_Re_readsLevel_24 rfl rfl (by decide) ?_
          | refine T_icmp_ne (tgt := 31) (pc1 := 27) (pc := 24) k_Re_readsLevel_24 rfl rfl (fun hc => ?_) (fun hc => ?_)
          | refine T_goto (tgt := 33) (pc := 28) k_Re_readsLevel_28 rfl ?_
          | refine T_iconst (v := (nI 0)) (pc1 := 35) (pc := 34) k_Re_readsLevel_34 rfl (by decide) ?_
          | refine T_istore_n (pc1 := 36) (pc := 35) k_Re_readsLevel_35 rfl (Nat.le_of_ble_eq_true rfl) ?_)
        all_goals first | exact l0 | (exfalso; omega)
    · rw [hb, if_pos rfl] at hr
      subst hr
      exact k1 J2 rfl hJ2 hJ2P
set_option maxHeartbeats 4000000 in
theorem c_Re_piece {f : Nat} (G : GeoOK g) (okt : okTp T z) (hk : key < 3) (IH5 : ∀ f', f' < f → RcP g T z key f') (IH0 : ∀ f', f' < f → RcL g T z key f' 0) : RcP g T z key f := by
  intro no op p I K hno hop hw hf hI hM hP k0 k1
  show Rl (40 + 2 * (8 - no) + 8 * (8 - op) + 0) M_Re_readsPiece 0 [some (.ref 66)] [] g I K
  have h96 := okt.1
  have w1 := hw.1
  have w2 := hw.2.1
  have w4 := hw.2.2.2.1
  obtain ⟨n1, n2⟩ := nx_wf okt w2
  have n3 := n1.1
  have n4 := n1.2.1
  rw [rkm_le (by decide)] at hf
  have nI0 : okI (pC (nx T z p)) (pM (nx T z p)) (pV (nx T z p)) (nnOf key) := hI
  have nM : pM (nx T z p) ≤ pS (nx T z p) := by show pM p ≤ pS (nx T z p); omega
  generalize hr : prs T z key f 5 no op p = r at k0 k1
  cases f with
  | zero => exfalso; omega
  | succ f =>
    rw [prs, if_neg (by decide), if_pos rfl] at hr
    obtain ⟨⟨h0, h0'⟩, h1, h2, h3, h4, h5, h6, h7, h8, h9⟩ := id hP
    have ns : pO p ≠ 3 → sgI T p 33 = false ∧ sgI T p 40 = false := fun q => ⟨sgI_f (Or.inl q), sgI_f (Or.inl q)⟩
    have bad : r = (true, p) → K (some (.int (nI 0))) g I := fun q => by
      subst q
      exact k1 I rfl fr_rf h1
    by_cases c2 : pO p = 2
    · obtain ⟨s1, s2⟩ := ns (by omega)
      have w5 := hw.2.2.1 (by omega)
      rw [if_neg (by rw [s1]; decide), if_neg (by rw [s2]; decide)] at hr
      repeat' (first
        | ((first | refine T_aload_n (pc1 := 1) (pc := 0) k_Re_readsPiece_0 rfl rfl ?_ | refine T_aload_nN (pc1 := 1) (pc := 0) k_Re_readsPiece_0 rfl rfl ?_) <;> try (refine T_getV (pc1 := 4) (pc := 1) k_Re_readsPiece_1 rfl f_Re_25 rfl (by first | assumption | exact ga G (by decide) rfl | exact lgA LG (by omega)) (by first | assumption | (simp (disch := omega) only [pI_eq, pI_row, pI_col, va_up_self, va_up_ne, ne_eq, not_false_eq_true] <;> rfl) | rfl) ?_ <;> try (refine T_iconst (v := (nI 2)) (pc1 := 5) (pc := 4) k_Re_readsPiece_4 rfl (by decide) ?_ <;> try ((first | (with_reducible refine T_icmp_neN (tgt := 13) (pc1 := 8) (pc := 5) k_Re_readsPiece_5 (by decide) (by decide) (by omega) (by omega) (fun hc => ?_) (fun hc => ?_) <;> first | (exfalso; omega) | skip) | refine T_icmp_ne_t (tgt := 13) (pc := 5) k_Re_readsPiece_5 rfl (by decide) ?_ | refine T_icmp_ne_f (tgt := 13) (pc1 := 8) (pc := 5) k_Re_readsPiece_5 rfl rfl (by decide) ?_ | refine T_icmp_ne (tgt := 13) (pc1 := 8) (pc := 5) k_Re_readsPiece_5 rfl rfl (fun hc => ?_) (fun hc => ?_))))))
        | ((first | refine T_aload_n (pc1 := 9) (pc := 8) k_Re_readsPiece_8 rfl rfl ?_ | refine T_aload_nN (pc1 := 9) (pc := 8) k_Re_readsPiece_8 rfl rfl ?_) <;> try ((refine T_cV (As := []) (d1 := 3) (pc1 := 12) (pc := 9) k_Re_readsPiece_9 rfl (by show _ < _ + 2 * _ + 8 * _ + _; omega) (Nat.le_of_ble_eq_true rfl) rfl o_Re_readsNumber l_Re_96 rfl (by first | assumption | exact ga G (by decide) rfl | exact lgA LG (by omega)) rfl (c_Re_readsNumber G okt hP hw (by omega) c2 (fun c J hc hJ hJP => ?_) (fun hc => ?_)) <;> try dsimp only [psh]) <;> try (refine T_retI (pc := 12) k_Re_readsPiece_12 rfl (by first | rfl | decide | assumption) ?_)))
        | refine T_getV (pc1 := 4) (pc := 1) k_Re_readsPiece_1 rfl f_Re_25 rfl (by first | assumption | exact ga G (by decide) rfl | exact lgA LG (by omega)) (by first | assumption | (simp (disch := omega) only [pI_eq, pI_row, pI_col, va_up_self, va_up_ne, ne_eq, not_false_eq_true] <;> rfl) | rfl) ?_
        | refine T_iconst (v := (nI 2)) (pc1 := 5) (pc := 4) k_Re_readsPiece_4 rfl (by decide) ?_
        | (with_reducible refine T_icmp_neN (tgt := 13) (pc1 := 8) (pc := 5) k_Re_readsPiece_5 (by decide) (by decide) (by omega) (by omega) (fun hc => ?_) (fun hc => ?_) <;> first | (exfalso; omega) | skip)
        | refine T_icmp_ne_t (tgt := 13) (pc := 5) k_Re_readsPiece_5 rfl (by decide) ?_
        | refine T_icmp_ne_f (tgt := 13) (pc1 := 8) (pc := 5) k_Re_readsPiece_5 rfl rfl (by decide) ?_
        | refine T_icmp_ne (tgt := 13) (pc1 := 8) (pc := 5) k_Re_readsPiece_5 rfl rfl (fun hc => ?_) (fun hc => ?_)
        | (refine T_cV (As := []) (d1 := 3) (pc1 := 12) (pc := 9) k_Re_readsPiece_9 rfl (by show _ < _ + 2 * _ + 8 * _ + _; omega) (Nat.le_of_ble_eq_true rfl) rfl o_Re_readsNumber l_Re_96 rfl (by first | assumption | exact ga G (by decide) rfl | exact lgA LG (by omega)) rfl (c_Re_readsNumber G okt hP hw (by omega) c2 (fun c J hc hJ hJP => ?_) (fun hc => ?_)) <;> try dsimp only [psh])
        | refine T_retI (pc := 12) k_Re_readsPiece_12 rfl (by first | rfl | decide | assumption) ?_)
      all_goals try (exfalso; omega)
      · rw [hc] at hr
        dsimp only at hr
        subst hr
        exact k0 J rfl hJ hJP
      · rw [hc] at hr
        exact bad hr.symm
    · by_cases c1 : pO p = 1
      · obtain ⟨s1, s2⟩ := ns (by omega)
        have w5 := hw.2.2.1 (by omega)
        rw [if_neg (by rw [s1]; decide), if_neg (by rw [s2]; decide)] at hr
        repeat' (first
          | ((first | refine T_aload_n (pc1 := 1) (pc := 0) k_Re_readsPiece_0 rfl rfl ?_ | refine T_aload_nN (pc1 := 1) (pc := 0) k_Re_readsPiece_0 rfl rfl ?_) <;> try (refine T_getV (pc1 := 4) (pc := 1) k_Re_readsPiece_1 rfl f_Re_25 rfl (by first | assumption | exact ga G (by decide) rfl | exact lgA LG (by omega)) (by first | assumption | (simp (disch := omega) only [pI_eq, pI_row, pI_col, va_up_self, va_up_ne, ne_eq, not_false_eq_true] <;> rfl) | rfl) ?_ <;> try (refine T_iconst (v := (nI 2)) (pc1 := 5) (pc := 4) k_Re_readsPiece_4 rfl (by decide) ?_ <;> try ((first | (with_reducible refine T_icmp_neN (tgt := 13) (pc1 := 8) (pc := 5) k_Re_readsPiece_5 (by decide) (by decide) (by omega) (by omega) (fun hc => ?_) (fun hc => ?_) <;> first | (exfalso; omega) | skip) | refine T_icmp_ne_t (tgt := 13) (pc := 5) k_Re_readsPiece_5 rfl (by decide) ?_ | refine T_icmp_ne_f (tgt := 13) (pc1 := 8) (pc := 5) k_Re_readsPiece_5 rfl rfl (by decide) ?_ | refine T_icmp_ne (tgt := 13) (pc1 := 8) (pc := 5) k_Re_readsPiece_5 rfl rfl (fun hc => ?_) (fun hc => ?_))))))
          | ((first | refine T_aload_n (pc1 := 14) (pc := 13) k_Re_readsPiece_13 rfl rfl ?_ | refine T_aload_nN (pc1 := 14) (pc := 13) k_Re_readsPiece_13 rfl rfl ?_) <;> try (refine T_getV (pc1 := 17) (pc := 14) k_Re_readsPiece_14 rfl f_Re_25 rfl (by first | assumption | exact ga G (by decide) rfl | exact lgA LG (by omega)) (by first | assumption | (simp (disch := omega) only [pI_eq, pI_row, pI_col, va_up_self, va_up_ne, ne_eq, not_false_eq_true] <;> rfl) | rfl) ?_ <;> try (refine T_iconst (v := (nI 1)) (pc1 := 18) (pc := 17) k_Re_readsPiece_17 rfl (by decide) ?_ <;> try ((first | (with_reducible refine T_icmp_neN (tgt := 26) (pc1 := 21) (pc := 18) k_Re_readsPiece_18 (by decide) (by decide) (by omega) (by omega) (fun hc => ?_) (fun hc => ?_) <;> first | (exfalso; omega) | skip) | refine T_icmp_ne_t (tgt := 26) (pc := 18) k_Re_readsPiece_18 rfl (by decide) ?_ | refine T_icmp_ne_f (tgt := 26) (pc1 := 21) (pc := 18) k_Re_readsPiece_18 rfl rfl (by decide) ?_ | refine T_icmp_ne (tgt := 26) (pc1 := 21) (pc := 18) k_Re_readsPiece_18 rfl rfl (fun hc => ?_) (fun hc => ?_))))))
          | ((first | refine T_aload_n (pc1 := 22) (pc := 21) k_Re_readsPiece_21 rfl rfl ?_ | refine T_aload_nN (pc1 := 22) (pc := 21) k_Re_readsPiece_21 rfl rfl ?_) <;> try ((refine T_cV (As := []) (d1 := 5) (pc1 := 25) (pc := 22) k_Re_readsPiece_22 rfl (by show _ < _ + 2 * _ + 8 * _ + _; omega) (Nat.le_of_ble_eq_true rfl) rfl o_Re_readsName l_Re_99 rfl (by first | assumption | exact ga G (by decide) rfl | exact lgA LG (by omega)) rfl (c_Re_readsName G okt hk hP hw (by omega) c1 (fun c J hc hJ hJP => ?_) (fun hc => ?_)) <;> try dsimp only [psh]) <;> try (refine T_retI (pc := 25) k_Re_readsPiece_25 rfl (by first | rfl | decide | assumption) ?_)))
          | refine T_getV (pc1 := 4) (pc := 1) k_Re_readsPiece_1 rfl f_Re_25 rfl (by first | assumption | exact ga G (by decide) rfl | exact lgA LG (by omega)) (by first | assumption | (simp (disch := omega) only [pI_eq, pI_row, pI_col, va_up_self, va_up_ne, ne_eq, not_false_eq_true] <;> rfl) | rfl) ?_
          | refine T_iconst (v := (nI 2)) (pc1 := 5) (pc := 4) k_Re_readsPiece_4 rfl (by decide) ?_
          | (with_reducible refine T_icmp_neN (tgt := 13) (pc1 := 8) (pc := 5) k_Re_readsPiece_5 (by decide) (by decide) (by omega) (by omega) (fun hc => ?_) (fun hc => ?_) <;> first | (exfalso; omega) | skip)
          | refine T_icmp_ne_t (tgt := 13) (pc := 5) k_Re_readsPiece_5 rfl (by decide) ?_
          | refine T_icmp_ne_f (tgt := 13) (pc1 := 8) (pc := 5) k_Re_readsPiece_5 rfl rfl (by decide) ?_
          | refine T_icmp_ne (tgt := 13) (pc1 := 8) (pc := 5) k_Re_readsPiece_5 rfl rfl (fun hc => ?_) (fun hc => ?_)
          | refine T_getV (pc1 := 17) (pc := 14) k_Re_readsPiece_14 rfl f_Re_25 rfl (by first | assumption | exact ga G (by decide) rfl | exact lgA LG (by omega)) (by first | assumption | (simp (disch := omega) only [pI_eq, pI_row, pI_col, va_up_self, va_up_ne, ne_eq, not_false_eq_true] <;> rfl) | rfl) ?_
          | refine T_iconst (v := (nI 1)) (pc1 := 18) (pc := 17) k_Re_readsPiece_17 rfl (by decide) ?_
          | (with_reducible refine T_icmp_neN (tgt := 26) (pc1 := 21) (pc := 18) k_Re_readsPiece_18 (by decide) (by decide) (by omega) (by omega) (fun hc => ?_) (fun hc => ?_) <;> first | (exfalso; omega) | skip)
          | refine T_icmp_ne_t (tgt := 26) (pc := 18) k_Re_readsPiece_18 rfl (by decide) ?_
          | refine T_icmp_ne_f (tgt := 26) (pc1 := 21) (pc := 18) k_Re_readsPiece_18 rfl rfl (by decide) ?_
          | refine T_icmp_ne (tgt := 26) (pc1 := 21) (pc := 18) k_Re_readsPiece_18 rfl rfl (fun hc => ?_) (fun hc => ?_)
          | (refine T_cV (As := []) (d1 := 5) (pc1 := 25) (pc := 22) k_Re_readsPiece_22 rfl (by show _ < _ + 2 * _ + 8 * _ + _; omega) (Nat.le_of_ble_eq_true rfl) rfl o_Re_readsName l_Re_99 rfl (by first | assumption | exact ga G (by decide) rfl | exact lgA LG (by omega)) rfl (c_Re_readsName G okt hk hP hw (by omega) c1 (fun c J hc hJ hJP => ?_) (fun hc => ?_)) <;> try dsimp only [psh])
          | refine T_retI (pc := 25) k_Re_readsPiece_25 rfl (by first | rfl | decide | assumption) ?_)
        all_goals try (exfalso; omega)
        · rw [hc] at hr
          dsimp only at hr
          subst hr
          exact k0 J rfl hJ hJP
        · rw [hc] at hr
          exact bad hr.symm
      · have hlf : lfC T key p = none := by rw [lfC, if_neg (fun q => c2 q.1), if_neg (fun q => c1 q.1)]
        obtain ⟨i6, i7, i8⟩ := idx_1 (T (pS p))
        repeat' (first
          | ((first | refine T_aload_n (pc1 := 1) (pc := 0) k_Re_readsPiece_0 rfl rfl ?_ | refine T_aload_nN (pc1 := 1) (pc := 0) k_Re_readsPiece_0 rfl rfl ?_) <;> try (refine T_getV (pc1 := 4) (pc := 1) k_Re_readsPiece_1 rfl f_Re_25 rfl (by first | assumption | exact ga G (by decide) rfl | exact lgA LG (by omega)) (by first | assumption | (simp (disch := omega) only [pI_eq, pI_row, pI_col, va_up_self, va_up_ne, ne_eq, not_false_eq_true] <;> rfl) | rfl) ?_ <;> try (refine T_iconst (v := (nI 2)) (pc1 := 5) (pc := 4) k_Re_readsPiece_4 rfl (by decide) ?_ <;> try ((first | (with_reducible refine T_icmp_neN (tgt := 13) (pc1 := 8) (pc := 5) k_Re_readsPiece_5 (by decide) (by decide) (by omega) (by omega) (fun hc => ?_) (fun hc => ?_) <;> first | (exfalso; omega) | skip) | refine T_icmp_ne_t (tgt := 13) (pc := 5) k_Re_readsPiece_5 rfl (by decide) ?_ | refine T_icmp_ne_f (tgt := 13) (pc1 := 8) (pc := 5) k_Re_readsPiece_5 rfl rfl (by decide) ?_ | refine T_icmp_ne (tgt := 13) (pc1 := 8) (pc := 5) k_Re_readsPiece_5 rfl rfl (fun hc => ?_) (fun hc => ?_))))))
          | ((first | refine T_aload_n (pc1 := 14) (pc := 13) k_Re_readsPiece_13 rfl rfl ?_ | refine T_aload_nN (pc1 := 14) (pc := 13) k_Re_readsPiece_13 rfl rfl ?_) <;> try (refine T_getV (pc1 := 17) (pc := 14) k_Re_readsPiece_14 rfl f_Re_25 rfl (by first | assumption | exact ga G (by decide) rfl | exact lgA LG (by omega)) (by first | assumption | (simp (disch := omega) only [pI_eq, pI_row, pI_col, va_up_self, va_up_ne, ne_eq, not_false_eq_true] <;> rfl) | rfl) ?_ <;> try (refine T_iconst (v := (nI 1)) (pc1 := 18) (pc := 17) k_Re_readsPiece_17 rfl (by decide) ?_ <;> try ((first | (with_reducible refine T_icmp_neN (tgt := 26) (pc1 := 21) (pc := 18) k_Re_readsPiece_18 (by decide) (by decide) (by omega) (by omega) (fun hc => ?_) (fun hc => ?_) <;> first | (exfalso; omega) | skip) | refine T_icmp_ne_t (tgt := 26) (pc := 18) k_Re_readsPiece_18 rfl (by decide) ?_ | refine T_icmp_ne_f (tgt := 26) (pc1 := 21) (pc := 18) k_Re_readsPiece_18 rfl rfl (by decide) ?_ | refine T_icmp_ne (tgt := 26) (pc1 := 21) (pc := 18) k_Re_readsPiece_18 rfl rfl (fun hc => ?_) (fun hc => ?_))))))
          | ((first | refine T_aload_n (pc1 := 27) (pc := 26) k_Re_readsPiece_26 rfl rfl ?_ | refine T_aload_nN (pc1 := 27) (pc := 26) k_Re_readsPiece_26 rfl rfl ?_) <;> try (refine T_ldcS (tx := "!") (j := 6) (pc1 := 29) (pc := 27) k_Re_readsPiece_27 rfl s_Re_102 ?_ <;> try ((refine T_cV (As := [_]) (d1 := 5) (pc1 := 32) (pc := 29) k_Re_readsPiece_29 rfl (by show _ < 40 + _ + _ + _; omega) (Nat.le_of_ble_eq_true rfl) rfl o_Re_isSignOf l_Re_86 rfl (ga G (by decide) rfl) rfl (c_Re_isSignOf (j := 6) G okt (by decide) hP hw (fun s3 si => ?_) (fun sn => ?_)) <;> try dsimp only [psh]) <;> try ((first | (with_reducible refine T_if_eqN (tgt := 40) (pc1 := 35) (pc := 32) k_Re_readsPiece_32 (by decide) (by decide) (by omega) (fun hc => ?_) (fun hc => ?_) <;> first | (exfalso; omega) | skip) | refine T_if_eq_t (tgt := 40) (pc := 32) k_Re_readsPiece_32 rfl (by decide) ?_ | refine T_if_eq_f (tgt := 40) (pc1 := 35) (pc := 32) k_Re_readsPiece_32 rfl rfl (by decide) ?_ | refine T_if_eq (tgt := 40) (pc1 := 35) (pc := 32) k_Re_readsPiece_32 rfl rfl (fun hc => ?_) (fun hc => ?_))))))
          | (refine T_retI (pc := 39) k_Re_readsPiece_39 rfl (by first | rfl | decide | assumption) ?_)
          | ((first | refine T_aload_n (pc1 := 41) (pc := 40) k_Re_readsPiece_40 rfl rfl ?_ | refine T_aload_nN (pc1 := 41) (pc := 40) k_Re_readsPiece_40 rfl rfl ?_) <;> try (refine T_ldcS (tx := "(") (j := 7) (pc1 := 43) (pc := 41) k_Re_readsPiece_41 rfl s_Re_107 ?_ <;> try ((refine T_cV (As := [_]) (d1 := 5) (pc1 := 46) (pc := 43) k_Re_readsPiece_43 rfl (by show _ < 40 + _ + _ + _; omega) (Nat.le_of_ble_eq_true rfl) rfl o_Re_isSignOf l_Re_86 rfl (ga G (by decide) rfl) rfl (c_Re_isSignOf (j := 7) G okt (by decide) hP hw (fun t3 ti => ?_) (fun tn => ?_)) <;> try dsimp only [psh]) <;> try ((first | (with_reducible refine T_if_eqN (tgt := 60) (pc1 := 49) (pc := 46) k_Re_readsPiece_46 (by decide) (by decide) (by omega) (fun hc => ?_) (fun hc => ?_) <;> first | (exfalso; omega) | skip) | refine T_if_eq_t (tgt := 60) (pc := 46) k_Re_readsPiece_46 rfl (by decide) ?_ | refine T_if_eq_f (tgt := 60) (pc1 := 49) (pc := 46) k_Re_readsPiece_46 rfl rfl (by decide) ?_ | refine T_if_eq (tgt := 60) (pc1 := 49) (pc := 46) k_Re_readsPiece_46 rfl rfl (fun hc => ?_) (fun hc => ?_))))))
          | (refine T_iconst (v := (nI 0)) (pc1 := 61) (pc := 60) k_Re_readsPiece_60 rfl (by decide) ?_)
          | (refine T_retI (pc := 61) k_Re_readsPiece_61 rfl (by first | rfl | decide | assumption) ?_)
          | refine T_getV (pc1 := 4) (pc := 1) k_Re_readsPiece_1 rfl f_Re_25 rfl (by first | assumption | exact ga G (by decide) rfl | exact lgA LG (by omega)) (by first | assumption | (simp (disch := omega) only [pI_eq, pI_row, pI_col, va_up_self, va_up_ne, ne_eq, not_false_eq_true] <;> rfl) | rfl) ?_
          | refine T_iconst (v := (nI 2)) (pc1 := 5) (pc := 4) k_Re_readsPiece_4 rfl (by decide) ?_
          | (with_reducible refine T_icmp_neN (tgt := 13) (pc1 := 8) (pc := 5) k_Re_readsPiece_5 (by decide) (by decide) (by omega) (by omega) (fun hc => ?_) (fun hc => ?_) <;> first | (exfalso; omega) | skip)
          | refine T_icmp_ne_t (tgt := 13) (pc := 5) k_Re_readsPiece_5 rfl (by decide) ?_
          | refine T_icmp_ne_f (tgt := 13) (pc1 := 8) (pc := 5) k_Re_readsPiece_5 rfl rfl (by decide) ?_
          | refine T_icmp_ne (tgt := 13) (pc1 := 8) (pc := 5) k_Re_readsPiece_5 rfl rfl (fun hc => ?_) (fun hc => ?_)
          | refine T_getV (pc1 := 17) (pc := 14) k_Re_readsPiece_14 rfl f_Re_25 rfl (by first | assumption | exact ga G (by decide) rfl | exact lgA LG (by omega)) (by first | assumption | (simp (disch := omega) only [pI_eq, pI_row, pI_col, va_up_self, va_up_ne, ne_eq, not_false_eq_true] <;> rfl) | rfl) ?_
          | refine T_iconst (v := (nI 1)) (pc1 := 18) (pc := 17) k_Re_readsPiece_17 rfl (by decide) ?_
          | (with_reducible refine T_icmp_neN (tgt := 26) (pc1 := 21) (pc := 18) k_Re_readsPiece_18 (by decide) (by decide) (by omega) (by omega) (fun hc => ?_) (fun hc => ?_) <;> first | (exfalso; omega) | skip)
          | refine T_icmp_ne_t (tgt := 26) (pc := 18) k_Re_readsPiece_18 rfl (by decide) ?_
          | refine T_icmp_ne_f (tgt := 26) (pc1 := 21) (pc := 18) k_Re_readsPiece_18 rfl rfl (by decide) ?_
          | refine T_icmp_ne (tgt := 26) (pc1 := 21) (pc := 18) k_Re_readsPiece_18 rfl rfl (fun hc => ?_) (fun hc => ?_)
          | refine T_ldcS (tx := "!") (j := 6) (pc1 := 29) (pc := 27) k_Re_readsPiece_27 rfl s_Re_102 ?_
          | (refine T_cV (As := [_]) (d1 := 5) (pc1 := 32) (pc := 29) k_Re_readsPiece_29 rfl (by show _ < 40 + _ + _ + _; omega) (Nat.le_of_ble_eq_true rfl) rfl o_Re_isSignOf l_Re_86 rfl (ga G (by decide) rfl) rfl (c_Re_isSignOf (j := 6) G okt (by decide) hP hw (fun s3 si => ?_) (fun sn => ?_)) <;> try dsimp only [psh])
          | (with_reducible refine T_if_eqN (tgt := 40) (pc1 := 35) (pc := 32) k_Re_readsPiece_32 (by decide) (by decide) (by omega) (fun hc => ?_) (fun hc => ?_) <;> first | (exfalso; omega) | skip)
          | refine T_if_eq_t (tgt := 40) (pc := 32) k_Re_readsPiece_32 rfl (by decide) ?_
          | refine T_if_eq_f (tgt := 40) (pc1 := 35) (pc := 32) k_Re_readsPiece_32 rfl rfl (by decide) ?_
          | refine T_if_eq (tgt := 40) (pc1 := 35) (pc := 32) k_Re_readsPiece_32 rfl rfl (fun hc => ?_) (fun hc => ?_)
          | refine T_ldcS (tx := "(") (j := 7) (pc1 := 43) (pc := 41) k_Re_readsPiece_41 rfl s_Re_107 ?_
          | (refine T_cV (As := [_]) (d1 := 5) (pc1 := 46) (pc := 43) k_Re_readsPiece_43 rfl (by show _ < 40 + _ + _ + _; omega) (Nat.le_of_ble_eq_true rfl) rfl o_Re_isSignOf l_Re_86 rfl (ga G (by decide) rfl) rfl (c_Re_isSignOf (j := 7) G okt (by decide) hP hw (fun t3 ti => ?_) (fun tn => ?_)) <;> try dsimp only [psh])
          | (with_reducible refine T_if_eqN (tgt := 60) (pc1 := 49) (pc := 46) k_Re_readsPiece_46 (by decide) (by decide) (by omega) (fun hc => ?_) (fun hc => ?_) <;> first | (exfalso; omega) | skip)
          | refine T_if_eq_t (tgt := 60) (pc := 46) k_Re_readsPiece_46 rfl (by decide) ?_
          | refine T_if_eq_f (tgt := 60) (pc1 := 49) (pc := 46) k_Re_readsPiece_46 rfl rfl (by decide) ?_
          | refine T_if_eq (tgt := 60) (pc1 := 49) (pc := 46) k_Re_readsPiece_46 rfl rfl (fun hc => ?_) (fun hc => ?_))
        all_goals try (exfalso; omega)
        · -- not
          have e33 : T (pS p) = nI 33 := Decidable.not_not.mp (fun q => si (i6.mpr q))
          have s1 := sgI_t s3 e33
          rw [if_pos s1] at hr
          have w5 := hw.2.2.1 (by omega)
          first | refine T_aload_n (pc1 := 36) (pc := 35) k_Re_readsPiece_35 rfl rfl ?_ | refine T_aload_nN (pc1 := 36) (pc := 35) k_Re_readsPiece_35 rfl rfl ?_
          (refine T_cV (As := []) (d1 := 39 + 2 * (8 - no) + 8 * (8 - op)) (pc1 := 39) (pc := 36) k_Re_readsPiece_36 rfl (by omega) (Nat.le_of_ble_eq_true rfl) rfl o_Re_readsNot l_Re_104 rfl (ga G (by decide) rfl) rfl ?_ <;> try dsimp only [psh])
          show Rl (39 + 2 * (8 - no) + 8 * (8 - op)) M_Re_readsNot 0 [some (.ref 66)] [] g I _
          by_cases hn8 : no < 8
          · rw [if_pos hn8] at hr
            have nf : 7 * (z - pS (nx T z p)) + rkm 5 < f := by rw [rkm_le (by decide)]; omega
            have q1 := prs_ok okt hk f 5 (no + 1) op (nx T z p) (Or.inl (by decide)) n1 nf nI0 (by omega)
            repeat' (first
              | ((first | refine T_aload_n (pc1 := 1) (pc := 0) k_Re_readsNot_0 rfl rfl ?_ | refine T_aload_nN (pc1 := 1) (pc := 0) k_Re_readsNot_0 rfl rfl ?_) <;> try (refine T_getV (pc1 := 4) (pc := 1) k_Re_readsNot_1 rfl f_Re_44 rfl (by first | assumption | exact ga G (by decide) rfl | exact lgA LG (by omega)) (by first | assumption | (simp (disch := omega) only [pI_eq, pI_row, pI_col, va_up_self, va_up_ne, ne_eq, not_false_eq_true] <;> rfl) | rfl) ?_ <;> try (refine T_bipush (v := (nI 8)) (pc1 := 6) (pc := 4) k_Re_readsNot_4 rfl (by decide) ?_ <;> try ((first | (with_reducible refine T_icmp_ltN (tgt := 11) (pc1 := 9) (pc := 6) k_Re_readsNot_6 (by decide) (by decide) (by omega) (by omega) (fun hc => ?_) (fun hc => ?_) <;> first | (exfalso; omega) | skip) | refine T_icmp_lt_t (tgt := 11) (pc := 6) k_Re_readsNot_6 rfl (by decide) ?_ | refine T_icmp_lt_f (tgt := 11) (pc1 := 9) (pc := 6) k_Re_readsNot_6 rfl rfl (by decide) ?_ | refine T_icmp_lt (tgt := 11) (pc1 := 9) (pc := 6) k_Re_readsNot_6 rfl rfl (fun hc => ?_) (fun hc => ?_))))))
              | (refine T_iconst (v := (nI 0)) (pc1 := 10) (pc := 9) k_Re_readsNot_9 rfl (by decide) ?_ <;> try (refine T_retI (pc := 10) k_Re_readsNot_10 rfl (by first | rfl | decide | assumption) ?_))
              | ((first | refine T_aload_n (pc1 := 12) (pc := 11) k_Re_readsNot_11 rfl rfl ?_ | refine T_aload_nN (pc1 := 12) (pc := 11) k_Re_readsNot_11 rfl rfl ?_) <;> try (refine T_dup (pc1 := 13) (pc := 12) k_Re_readsNot_12 rfl rfl ?_ <;> try (refine T_getV (pc1 := 16) (pc := 13) k_Re_readsNot_13 rfl f_Re_44 rfl (by first | assumption | exact ga G (by decide) rfl | exact lgA LG (by omega)) (by first | assumption | (simp (disch := omega) only [pI_eq, pI_row, pI_col, va_up_self, va_up_ne, ne_eq, not_false_eq_true] <;> rfl) | rfl) ?_ <;> try (refine T_iconst (v := (nI 1)) (pc1 := 17) (pc := 16) k_Re_readsNot_16 rfl (by decide) ?_ <;> try ((first | with_reducible refine T_iaddN (pc1 := 18) (pc := 17) k_Re_readsNot_17 (by decide) ?_ | refine T_iadd (pc1 := 18) (pc := 17) k_Re_readsNot_17 rfl ?_) <;> try (refine T_putI (pc1 := 21) (pc := 18) k_Re_readsNot_18 rfl f_Re_44 rfl (by first | assumption | exact ga G (by decide) rfl | exact lgA LG (by omega)) (by first | rfl | decide | assumption) (by first | rfl | decide | assumption) ?_ <;> try ((first | refine T_aload_n (pc1 := 22) (pc := 21) k_Re_readsNot_21 rfl rfl ?_ | refine T_aload_nN (pc1 := 22) (pc := 21) k_Re_readsNot_21 rfl rfl ?_) <;> try ((refine T_cV (As := []) (d1 := 2) (pc1 := 25) (pc := 22) k_Re_readsNot_22 rfl (by omega) (Nat.le_of_ble_eq_true rfl) rfl o_Re_next l_Re_47 rfl (ga G (by decide) rfl) rfl (c_Re_nextO G okt (PCo_no (no' := no + 1) hP) hw (fun J1 hJ1 hJ1P => ?_)) <;> try dsimp only [psh]) <;> try ((first | refine T_aload_n (pc1 := 26) (pc := 25) k_Re_readsNot_25 rfl rfl ?_ | refine T_aload_nN (pc1 := 26) (pc := 25) k_Re_readsNot_25 rfl rfl ?_))))))))))
              | refine T_getV (pc1 := 4) (pc := 1) k_Re_readsNot_1 rfl f_Re_44 rfl (by first | assumption | exact ga G (by decide) rfl | exact lgA LG (by omega)) (by first | assumption | (simp (disch := omega) only [pI_eq, pI_row, pI_col, va_up_self, va_up_ne, ne_eq, not_false_eq_true] <;> rfl) | rfl) ?_
              | refine T_bipush (v := (nI 8)) (pc1 := 6) (pc := 4) k_Re_readsNot_4 rfl (by decide) ?_
              | (with_reducible refine T_icmp_ltN (tgt := 11) (pc1 := 9) (pc := 6) k_Re_readsNot_6 (by decide) (by decide) (by omega) (by omega) (fun hc => ?_) (fun hc => ?_) <;> first | (exfalso; omega) | skip)
              | refine T_icmp_lt_t (tgt := 11) (pc := 6) k_Re_readsNot_6 rfl (by decide) ?_
              | refine T_icmp_lt_f (tgt := 11) (pc1 := 9) (pc := 6) k_Re_readsNot_6 rfl rfl (by decide) ?_
              | refine T_icmp_lt (tgt := 11) (pc1 := 9) (pc := 6) k_Re_readsNot_6 rfl rfl (fun hc => ?_) (fun hc => ?_)
              | refine T_retI (pc := 10) k_Re_readsNot_10 rfl (by first | rfl | decide | assumption) ?_
              | refine T_dup (pc1 := 13) (pc := 12) k_Re_readsNot_12 rfl rfl ?_
              | refine T_getV (pc1 := 16) (pc := 13) k_Re_readsNot_13 rfl f_Re_44 rfl (by first | assumption | exact ga G (by decide) rfl | exact lgA LG (by omega)) (by first | assumption | (simp (disch := omega) only [pI_eq, pI_row, pI_col, va_up_self, va_up_ne, ne_eq, not_false_eq_true] <;> rfl) | rfl) ?_
              | refine T_iconst (v := (nI 1)) (pc1 := 17) (pc := 16) k_Re_readsNot_16 rfl (by decide) ?_
              | with_reducible refine T_iaddN (pc1 := 18) (pc := 17) k_Re_readsNot_17 (by decide) ?_
              | refine T_iadd (pc1 := 18) (pc := 17) k_Re_readsNot_17 rfl ?_
              | refine T_putI (pc1 := 21) (pc := 18) k_Re_readsNot_18 rfl f_Re_44 rfl (by first | assumption | exact ga G (by decide) rfl | exact lgA LG (by omega)) (by first | rfl | decide | assumption) (by first | rfl | decide | assumption) ?_
              | refine T_aload_n (pc1 := 22) (pc := 21) k_Re_readsNot_21 rfl rfl ?_
              | refine T_aload_nN (pc1 := 22) (pc := 21) k_Re_readsNot_21 rfl rfl ?_
              | (refine T_cV (As := []) (d1 := 2) (pc1 := 25) (pc := 22) k_Re_readsNot_22 rfl (by omega) (Nat.le_of_ble_eq_true rfl) rfl o_Re_next l_Re_47 rfl (ga G (by decide) rfl) rfl (c_Re_nextO G okt (PCo_no (no' := no + 1) hP) hw (fun J1 hJ1 hJ1P => ?_)) <;> try dsimp only [psh])
              | refine T_aload_n (pc1 := 26) (pc := 25) k_Re_readsNot_25 rfl rfl ?_
              | refine T_aload_nN (pc1 := 26) (pc := 25) k_Re_readsNot_25 rfl rfl ?_)
            all_goals try (exfalso; omega)
            refine T_cV (As := []) (d1 := 40 + 2 * (8 - (no + 1)) + 8 * (8 - op) + 0) (pc1 := 29) (pc := 26) k_Re_readsNot_26 rfl (by omega) (Nat.le_of_ble_eq_true rfl) rfl o_Re_readsPiece l_Re_79 rfl (ga G (by decide) rfl) rfl (IH5 f (by omega) (no + 1) op (nx T z p) J1 _ (by omega) hop n1 nf nI0 nM hJ1P (fun J2 hb hJ2 hJ2P => ?_) (fun J2 hb hJ2 hJ2P => ?_)) <;> try dsimp only [psh]
            · rw [hb, if_neg (by decide)] at hr
              have g9 := hJ2P.2.2.2.2.2.2.2.2.1
              have sn : PCo T z key no op (prs T z key f 5 (no + 1) op (nx T z p)).2 (pI J2 66 9 (nI (no + 1 - 1))) := PCo_no hJ2P
              obtain ⟨a1, a2, a3⟩ := q1
              obtain ⟨b1, b2, b3, b4, b5⟩ := a3 hb
              have b3 : pM (prs T z key f 5 (no + 1) op (nx T z p)).2 + pS (nx T z p) ≤ pM p + pS (prs T z key f 5 (no + 1) op (nx T z p)).2 := b3
              have a5 := a1.1
              have a6 := a1.2.1
              repeat' (first
                | ((first | (with_reducible refine T_if_neN (tgt := 34) (pc1 := 32) (pc := 29) k_Re_readsNot_29 (by decide) (by decide) (by omega) (fun hc => ?_) (fun hc => ?_) <;> first | (exfalso; omega) | skip) | refine T_if_ne_t (tgt := 34) (pc := 29) k_Re_readsNot_29 rfl (by decide) ?_ | refine T_if_ne_f (tgt := 34) (pc1 := 32) (pc := 29) k_Re_readsNot_29 rfl rfl (by decide) ?_ | refine T_if_ne (tgt := 34) (pc1 := 32) (pc := 29) k_Re_readsNot_29 rfl rfl (fun hc => ?_) (fun hc => ?_)))
                | (refine T_iconst (v := (nI 0)) (pc1 := 33) (pc := 32) k_Re_readsNot_32 rfl (by decide) ?_ <;> try (refine T_retI (pc := 33) k_Re_readsNot_33 rfl (by first | rfl | decide | assumption) ?_))
                | ((first | refine T_aload_n (pc1 := 35) (pc := 34) k_Re_readsNot_34 rfl rfl ?_ | refine T_aload_nN (pc1 := 35) (pc := 34) k_Re_readsNot_34 rfl rfl ?_) <;> try (refine T_dup (pc1 := 36) (pc := 35) k_Re_readsNot_35 rfl rfl ?_ <;> try (refine T_getV (pc1 := 39) (pc := 36) k_Re_readsNot_36 rfl f_Re_44 rfl (by first | assumption | exact ga G (by decide) rfl | exact lgA LG (by omega)) (by first | assumption | (simp (disch := omega) only [pI_eq, pI_row, pI_col, va_up_self, va_up_ne, ne_eq, not_false_eq_true] <;> rfl) | rfl) ?_ <;> try (refine T_iconst (v := (nI 1)) (pc1 := 40) (pc := 39) k_Re_readsNot_39 rfl (by decide) ?_ <;> try ((first | with_reducible refine T_isubN (pc1 := 41) (pc := 40) k_Re_readsNot_40 (by decide) (by omega) ?_ | refine T_isub (pc1 := 41) (pc := 40) k_Re_readsNot_40 rfl ?_) <;> try (refine T_putI (pc1 := 44) (pc := 41) k_Re_readsNot_41 rfl f_Re_44 rfl (by first | assumption | exact ga G (by decide) rfl | exact lgA LG (by omega)) (by first | rfl | decide | assumption) (by first | rfl | decide | assumption) ?_ <;> try ((first | refine T_aload_n (pc1 := 45) (pc := 44) k_Re_readsNot_44 rfl rfl ?_ | refine T_aload_nN (pc1 := 45) (pc := 44) k_Re_readsNot_44 rfl rfl ?_) <;> try (refine T_sipush (v := (-1033)) (pc1 := 48) (pc := 45) k_Re_readsNot_45 rfl (by decide) ?_ <;> try ((refine T_cV (As := [_]) (d1 := 1) (pc1 := 51) (pc := 48) k_Re_readsNot_48 rfl (by omega) (Nat.le_of_ble_eq_true rfl) rfl o_Re_addCode l_Re_92 rfl (ga G (by decide) rfl) rfl (c_Re_addCode (c := -29) G sn (by omega) rfl (fun J3 hJ3 hJ3P => ?_)) <;> try dsimp only [psh]) <;> try (refine T_iconst (v := (nI 1)) (pc1 := 52) (pc := 51) k_Re_readsNot_51 rfl (by decide) ?_ <;> try (refine T_retI (pc := 52) k_Re_readsNot_52 rfl (by first | rfl | decide | assumption) ?_)))))))))))
                | refine T_retI (pc := 33) k_Re_readsNot_33 rfl (by first | rfl | decide | assumption) ?_
                | refine T_dup (pc1 := 36) (pc := 35) k_Re_readsNot_35 rfl rfl ?_
                | refine T_getV (pc1 := 39) (pc := 36) k_Re_readsNot_36 rfl f_Re_44 rfl (by first | assumption | exact ga G (by decide) rfl | exact lgA LG (by omega)) (by first | assumption | (simp (disch := omega) only [pI_eq, pI_row, pI_col, va_up_self, va_up_ne, ne_eq, not_false_eq_true] <;> rfl) | rfl) ?_
                | refine T_iconst (v := (nI 1)) (pc1 := 40) (pc := 39) k_Re_readsNot_39 rfl (by decide) ?_
                | with_reducible refine T_isubN (pc1 := 41) (pc := 40) k_Re_readsNot_40 (by decide) (by omega) ?_
                | refine T_isub (pc1 := 41) (pc := 40) k_Re_readsNot_40 rfl ?_
                | refine T_putI (pc1 := 44) (pc := 41) k_Re_readsNot_41 rfl f_Re_44 rfl (by first | assumption | exact ga G (by decide) rfl | exact lgA LG (by omega)) (by first | rfl | decide | assumption) (by first | rfl | decide | assumption) ?_
                | refine T_aload_n (pc1 := 45) (pc := 44) k_Re_readsNot_44 rfl rfl ?_
                | refine T_aload_nN (pc1 := 45) (pc := 44) k_Re_readsNot_44 rfl rfl ?_
                | refine T_sipush (v := (-1033)) (pc1 := 48) (pc := 45) k_Re_readsNot_45 rfl (by decide) ?_
                | (refine T_cV (As := [_]) (d1 := 1) (pc1 := 51) (pc := 48) k_Re_readsNot_48 rfl (by omega) (Nat.le_of_ble_eq_true rfl) rfl o_Re_addCode l_Re_92 rfl (ga G (by decide) rfl) rfl (c_Re_addCode (c := -29) G sn (by omega) rfl (fun J3 hJ3 hJ3P => ?_)) <;> try dsimp only [psh])
                | refine T_iconst (v := (nI 1)) (pc1 := 52) (pc := 51) k_Re_readsNot_51 rfl (by decide) ?_
                | refine T_retI (pc := 52) k_Re_readsNot_52 rfl (by first | rfl | decide | assumption) ?_)
              all_goals try (exfalso; omega)
              repeat' (first
                | (refine T_retI (pc := 39) k_Re_readsPiece_39 rfl (by first | rfl | decide | assumption) ?_))
              subst hr
              exact k0 J3 rfl (fr_tr (fr_pI fr_rf (Or.inl rfl)) (fr_tr hJ1 (fr_tr hJ2 (fr_tr (fr_pI fr_rf (Or.inl rfl)) hJ3)))) hJ3P
            · rw [hb, if_pos rfl] at hr
              repeat' (first
                | ((first | (with_reducible refine T_if_neN (tgt := 34) (pc1 := 32) (pc := 29) k_Re_readsNot_29 (by decide) (by decide) (by omega) (fun hc => ?_) (fun hc => ?_) <;> first | (exfalso; omega) | skip) | refine T_if_ne_t (tgt := 34) (pc := 29) k_Re_readsNot_29 rfl (by decide) ?_ | refine T_if_ne_f (tgt := 34) (pc1 := 32) (pc := 29) k_Re_readsNot_29 rfl rfl (by decide) ?_ | refine T_if_ne (tgt := 34) (pc1 := 32) (pc := 29) k_Re_readsNot_29 rfl rfl (fun hc => ?_) (fun hc => ?_)))
                | (refine T_iconst (v := (nI 0)) (pc1 := 33) (pc := 32) k_Re_readsNot_32 rfl (by decide) ?_ <;> try (refine T_retI (pc := 33) k_Re_readsNot_33 rfl (by first | rfl | decide | assumption) ?_))
                | refine T_retI (pc := 33) k_Re_readsNot_33 rfl (by first | rfl | decide | assumption) ?_)
              all_goals try (exfalso; omega)
              repeat' (first
                | (refine T_retI (pc := 39) k_Re_readsPiece_39 rfl (by first | rfl | decide | assumption) ?_))
              subst hr
              exact k1 J2 rfl (fr_tr (fr_pI fr_rf (Or.inl rfl)) (fr_tr hJ1 hJ2)) hJ2P
          · rw [if_neg hn8] at hr
            have b0 := bad hr.symm
            repeat' (first
              | ((first | refine T_aload_n (pc1 := 1) (pc := 0) k_Re_readsNot_0 rfl rfl ?_ | refine T_aload_nN (pc1 := 1) (pc := 0) k_Re_readsNot_0 rfl rfl ?_) <;> try (refine T_getV (pc1 := 4) (pc := 1) k_Re_readsNot_1 rfl f_Re_44 rfl (by first | assumption | exact ga G (by decide) rfl | exact lgA LG (by omega)) (by first | assumption | (simp (disch := omega) only [pI_eq, pI_row, pI_col, va_up_self, va_up_ne, ne_eq, not_false_eq_true] <;> rfl) | rfl) ?_ <;> try (refine T_bipush (v := (nI 8)) (pc1 := 6) (pc := 4) k_Re_readsNot_4 rfl (by decide) ?_ <;> try ((first | (with_reducible refine T_icmp_ltN (tgt := 11) (pc1 := 9) (pc := 6) k_Re_readsNot_6 (by decide) (by decide) (by omega) (by omega) (fun hc => ?_) (fun hc => ?_) <;> first | (exfalso; omega) | skip) | refine T_icmp_lt_t (tgt := 11) (pc := 6) k_Re_readsNot_6 rfl (by decide) ?_ | refine T_icmp_lt_f (tgt := 11) (pc1 := 9) (pc := 6) k_Re_readsNot_6 rfl rfl (by decide) ?_ | refine T_icmp_lt (tgt := 11) (pc1 := 9) (pc := 6) k_Re_readsNot_6 rfl rfl (fun hc => ?_) (fun hc => ?_))))))
              | (refine T_iconst (v := (nI 0)) (pc1 := 10) (pc := 9) k_Re_readsNot_9 rfl (by decide) ?_ <;> try (refine T_retI (pc := 10) k_Re_readsNot_10 rfl (by first | rfl | decide | assumption) ?_))
              | refine T_getV (pc1 := 4) (pc := 1) k_Re_readsNot_1 rfl f_Re_44 rfl (by first | assumption | exact ga G (by decide) rfl | exact lgA LG (by omega)) (by first | assumption | (simp (disch := omega) only [pI_eq, pI_row, pI_col, va_up_self, va_up_ne, ne_eq, not_false_eq_true] <;> rfl) | rfl) ?_
              | refine T_bipush (v := (nI 8)) (pc1 := 6) (pc := 4) k_Re_readsNot_4 rfl (by decide) ?_
              | (with_reducible refine T_icmp_ltN (tgt := 11) (pc1 := 9) (pc := 6) k_Re_readsNot_6 (by decide) (by decide) (by omega) (by omega) (fun hc => ?_) (fun hc => ?_) <;> first | (exfalso; omega) | skip)
              | refine T_icmp_lt_t (tgt := 11) (pc := 6) k_Re_readsNot_6 rfl (by decide) ?_
              | refine T_icmp_lt_f (tgt := 11) (pc1 := 9) (pc := 6) k_Re_readsNot_6 rfl rfl (by decide) ?_
              | refine T_icmp_lt (tgt := 11) (pc1 := 9) (pc := 6) k_Re_readsNot_6 rfl rfl (fun hc => ?_) (fun hc => ?_)
              | refine T_retI (pc := 10) k_Re_readsNot_10 rfl (by first | rfl | decide | assumption) ?_)
            all_goals try (exfalso; omega)
            repeat' (first
              | (refine T_retI (pc := 39) k_Re_readsPiece_39 rfl (by first | rfl | decide | assumption) ?_))
            exact b0
        · -- brackets
          have e40 : T (pS p) = nI 40 := Decidable.not_not.mp (fun q => ti (i7.mpr q))
          have s2 := sgI_t t3 e40
          have s1 : sgI T p 33 = false := sgI_f (Or.inr (by rw [e40]; decide))
          rw [if_neg (by rw [s1]; decide), if_pos s2] at hr
          have w5 := hw.2.2.1 (by omega)
          first | refine T_aload_n (pc1 := 50) (pc := 49) k_Re_readsPiece_49 rfl rfl ?_ | refine T_aload_nN (pc1 := 50) (pc := 49) k_Re_readsPiece_49 rfl rfl ?_
          (refine T_cV (As := []) (d1 := 39 + 2 * (8 - no) + 8 * (8 - op)) (pc1 := 53) (pc := 50) k_Re_readsPiece_50 rfl (by omega) (Nat.le_of_ble_eq_true rfl) rfl o_Re_readsBrackets l_Re_109 rfl (ga G (by decide) rfl) rfl ?_ <;> try dsimp only [psh])
          show Rl (39 + 2 * (8 - no) + 8 * (8 - op)) M_Re_readsBrackets 0 [some (.ref 66)] [] g I _
          by_cases hn8 : op < 8
          · rw [if_pos hn8] at hr
            have nf : 7 * (z - pS (nx T z p)) + rkm 0 < f := by rw [rkm_le (by decide)]; omega
            have q1 := prs_ok okt hk f 0 no (op + 1) (nx T z p) (Or.inl (by decide)) n1 nf nI0 (by omega)
            repeat' (first
              | ((first | refine T_aload_n (pc1 := 1) (pc := 0) k_Re_readsBrackets_0 rfl rfl ?_ | refine T_aload_nN (pc1 := 1) (pc := 0) k_Re_readsBrackets_0 rfl rfl ?_) <;> try (refine T_getV (pc1 := 4) (pc := 1) k_Re_readsBrackets_1 rfl f_Re_41 rfl (by first | assumption | exact ga G (by decide) rfl | exact lgA LG (by omega)) (by first | assumption | (simp (disch := omega) only [pI_eq, pI_row, pI_col, va_up_self, va_up_ne, ne_eq, not_false_eq_true] <;> rfl) | rfl) ?_ <;> try (refine T_bipush (v := (nI 8)) (pc1 := 6) (pc := 4) k_Re_readsBrackets_4 rfl (by decide) ?_ <;> try ((first | (with_reducible refine T_icmp_ltN (tgt := 11) (pc1 := 9) (pc := 6) k_Re_readsBrackets_6 (by decide) (by decide) (by omega) (by omega) (fun hc => ?_) (fun hc => ?_) <;> first | (exfalso; omega) | skip) | refine T_icmp_lt_t (tgt := 11) (pc := 6) k_Re_readsBrackets_6 rfl (by decide) ?_ | refine T_icmp_lt_f (tgt := 11) (pc1 := 9) (pc := 6) k_Re_readsBrackets_6 rfl rfl (by decide) ?_ | refine T_icmp_lt (tgt := 11) (pc1 := 9) (pc := 6) k_Re_readsBrackets_6 rfl rfl (fun hc => ?_) (fun hc => ?_))))))
              | (refine T_iconst (v := (nI 0)) (pc1 := 10) (pc := 9) k_Re_readsBrackets_9 rfl (by decide) ?_ <;> try (refine T_retI (pc := 10) k_Re_readsBrackets_10 rfl (by first | rfl | decide | assumption) ?_))
              | ((first | refine T_aload_n (pc1 := 12) (pc := 11) k_Re_readsBrackets_11 rfl rfl ?_ | refine T_aload_nN (pc1 := 12) (pc := 11) k_Re_readsBrackets_11 rfl rfl ?_) <;> try (refine T_dup (pc1 := 13) (pc := 12) k_Re_readsBrackets_12 rfl rfl ?_ <;> try (refine T_getV (pc1 := 16) (pc := 13) k_Re_readsBrackets_13 rfl f_Re_41 rfl (by first | assumption | exact ga G (by decide) rfl | exact lgA LG (by omega)) (by first | assumption | (simp (disch := omega) only [pI_eq, pI_row, pI_col, va_up_self, va_up_ne, ne_eq, not_false_eq_true] <;> rfl) | rfl) ?_ <;> try (refine T_iconst (v := (nI 1)) (pc1 := 17) (pc := 16) k_Re_readsBrackets_16 rfl (by decide) ?_ <;> try ((first | with_reducible refine T_iaddN (pc1 := 18) (pc := 17) k_Re_readsBrackets_17 (by decide) ?_ | refine T_iadd (pc1 := 18) (pc := 17) k_Re_readsBrackets_17 rfl ?_) <;> try (refine T_putI (pc1 := 21) (pc := 18) k_Re_readsBrackets_18 rfl f_Re_41 rfl (by first | assumption | exact ga G (by decide) rfl | exact lgA LG (by omega)) (by first | rfl | decide | assumption) (by first | rfl | decide | assumption) ?_ <;> try ((first | refine T_aload_n (pc1 := 22) (pc := 21) k_Re_readsBrackets_21 rfl rfl ?_ | refine T_aload_nN (pc1 := 22) (pc := 21) k_Re_readsBrackets_21 rfl rfl ?_) <;> try ((refine T_cV (As := []) (d1 := 2) (pc1 := 25) (pc := 22) k_Re_readsBrackets_22 rfl (by omega) (Nat.le_of_ble_eq_true rfl) rfl o_Re_next l_Re_47 rfl (ga G (by decide) rfl) rfl (c_Re_nextO G okt (PCo_op (op' := op + 1) hP) hw (fun J1 hJ1 hJ1P => ?_)) <;> try dsimp only [psh]) <;> try ((first | refine T_aload_n (pc1 := 26) (pc := 25) k_Re_readsBrackets_25 rfl rfl ?_ | refine T_aload_nN (pc1 := 26) (pc := 25) k_Re_readsBrackets_25 rfl rfl ?_) <;> try (refine T_iconst (v := (nI 0)) (pc1 := 27) (pc := 26) k_Re_readsBrackets_26 rfl (by decide) ?_))))))))))
              | refine T_getV (pc1 := 4) (pc := 1) k_Re_readsBrackets_1 rfl f_Re_41 rfl (by first | assumption | exact ga G (by decide) rfl | exact lgA LG (by omega)) (by first | assumption | (simp (disch := omega) only [pI_eq, pI_row, pI_col, va_up_self, va_up_ne, ne_eq, not_false_eq_true] <;> rfl) | rfl) ?_
              | refine T_bipush (v := (nI 8)) (pc1 := 6) (pc := 4) k_Re_readsBrackets_4 rfl (by decide) ?_
              | (with_reducible refine T_icmp_ltN (tgt := 11) (pc1 := 9) (pc := 6) k_Re_readsBrackets_6 (by decide) (by decide) (by omega) (by omega) (fun hc => ?_) (fun hc => ?_) <;> first | (exfalso; omega) | skip)
              | refine T_icmp_lt_t (tgt := 11) (pc := 6) k_Re_readsBrackets_6 rfl (by decide) ?_
              | refine T_icmp_lt_f (tgt := 11) (pc1 := 9) (pc := 6) k_Re_readsBrackets_6 rfl rfl (by decide) ?_
              | refine T_icmp_lt (tgt := 11) (pc1 := 9) (pc := 6) k_Re_readsBrackets_6 rfl rfl (fun hc => ?_) (fun hc => ?_)
              | refine T_retI (pc := 10) k_Re_readsBrackets_10 rfl (by first | rfl | decide | assumption) ?_
              | refine T_dup (pc1 := 13) (pc := 12) k_Re_readsBrackets_12 rfl rfl ?_
              | refine T_getV (pc1 := 16) (pc := 13) k_Re_readsBrackets_13 rfl f_Re_41 rfl (by first | assumption | exact ga G (by decide) rfl | exact lgA LG (by omega)) (by first | assumption | (simp (disch := omega) only [pI_eq, pI_row, pI_col, va_up_self, va_up_ne, ne_eq, not_false_eq_true] <;> rfl) | rfl) ?_
              | refine T_iconst (v := (nI 1)) (pc1 := 17) (pc := 16) k_Re_readsBrackets_16 rfl (by decide) ?_
              | with_reducible refine T_iaddN (pc1 := 18) (pc := 17) k_Re_readsBrackets_17 (by decide) ?_
              | refine T_iadd (pc1 := 18) (pc := 17) k_Re_readsBrackets_17 rfl ?_
              | refine T_putI (pc1 := 21) (pc := 18) k_Re_readsBrackets_18 rfl f_Re_41 rfl (by first | assumption | exact ga G (by decide) rfl | exact lgA LG (by omega)) (by first | rfl | decide | assumption) (by first | rfl | decide | assumption) ?_
              | refine T_aload_n (pc1 := 22) (pc := 21) k_Re_readsBrackets_21 rfl rfl ?_
              | refine T_aload_nN (pc1 := 22) (pc := 21) k_Re_readsBrackets_21 rfl rfl ?_
              | (refine T_cV (As := []) (d1 := 2) (pc1 := 25) (pc := 22) k_Re_readsBrackets_22 rfl (by omega) (Nat.le_of_ble_eq_true rfl) rfl o_Re_next l_Re_47 rfl (ga G (by decide) rfl) rfl (c_Re_nextO G okt (PCo_op (op' := op + 1) hP) hw (fun J1 hJ1 hJ1P => ?_)) <;> try dsimp only [psh])
              | refine T_aload_n (pc1 := 26) (pc := 25) k_Re_readsBrackets_25 rfl rfl ?_
              | refine T_aload_nN (pc1 := 26) (pc := 25) k_Re_readsBrackets_25 rfl rfl ?_
              | refine T_iconst (v := (nI 0)) (pc1 := 27) (pc := 26) k_Re_readsBrackets_26 rfl (by decide) ?_)
            all_goals try (exfalso; omega)
            refine T_cV (As := [_]) (d1 := 40 + 2 * (8 - no) + 8 * (8 - (op + 1)) + (6 - 0)) (pc1 := 30) (pc := 27) k_Re_readsBrackets_27 rfl (by omega) (Nat.le_of_ble_eq_true rfl) rfl o_Re_readsLevel l_Re_54 rfl (ga G (by decide) rfl) rfl (IH0 f (by omega) no (op + 1) (nx T z p) J1 _ hno (by omega) n1 nf nI0 nM hJ1P (fun J2 hb hJ2 hJ2P => ?_) (fun J2 hb hJ2 hJ2P => ?_)) <;> try dsimp only [psh]
            · rw [hb, if_neg (by decide)] at hr
              obtain ⟨a1, a2, a3⟩ := q1
              obtain ⟨-, -, l8⟩ := idx_1 (T (pS (prs T z key f 0 no (op + 1) (nx T z p)).2))
              repeat' (first
                | ((first | (with_reducible refine T_if_eqN (tgt := 42) (pc1 := 33) (pc := 30) k_Re_readsBrackets_30 (by decide) (by decide) (by omega) (fun hc => ?_) (fun hc => ?_) <;> first | (exfalso; omega) | skip) | refine T_if_eq_t (tgt := 42) (pc := 30) k_Re_readsBrackets_30 rfl (by decide) ?_ | refine T_if_eq_f (tgt := 42) (pc1 := 33) (pc := 30) k_Re_readsBrackets_30 rfl rfl (by decide) ?_ | refine T_if_eq (tgt := 42) (pc1 := 33) (pc := 30) k_Re_readsBrackets_30 rfl rfl (fun hc => ?_) (fun hc => ?_)))
                | ((first | refine T_aload_n (pc1 := 34) (pc := 33) k_Re_readsBrackets_33 rfl rfl ?_ | refine T_aload_nN (pc1 := 34) (pc := 33) k_Re_readsBrackets_33 rfl rfl ?_) <;> try (refine T_ldcS (tx := ")") (j := 8) (pc1 := 36) (pc := 34) k_Re_readsBrackets_34 rfl s_Re_124 ?_ <;> try ((refine T_cV (As := [_]) (d1 := 5) (pc1 := 39) (pc := 36) k_Re_readsBrackets_36 rfl (by omega) (Nat.le_of_ble_eq_true rfl) rfl o_Re_isSignOf l_Re_86 rfl (ga G (by decide) rfl) rfl (c_Re_isSignOf (j := 8) G okt (by decide) hJ2P a1 (fun u3 ui => ?_) (fun un => ?_)) <;> try dsimp only [psh]) <;> try ((first | (with_reducible refine T_if_neN (tgt := 44) (pc1 := 42) (pc := 39) k_Re_readsBrackets_39 (by decide) (by decide) (by omega) (fun hc => ?_) (fun hc => ?_) <;> first | (exfalso; omega) | skip) | refine T_if_ne_t (tgt := 44) (pc := 39) k_Re_readsBrackets_39 rfl (by decide) ?_ | refine T_if_ne_f (tgt := 44) (pc1 := 42) (pc := 39) k_Re_readsBrackets_39 rfl rfl (by decide) ?_ | refine T_if_ne (tgt := 44) (pc1 := 42) (pc := 39) k_Re_readsBrackets_39 rfl rfl (fun hc => ?_) (fun hc => ?_))))))
                | (refine T_iconst (v := (nI 0)) (pc1 := 43) (pc := 42) k_Re_readsBrackets_42 rfl (by decide) ?_ <;> try (refine T_retI (pc := 43) k_Re_readsBrackets_43 rfl (by first | rfl | decide | assumption) ?_))
                | refine T_ldcS (tx := ")") (j := 8) (pc1 := 36) (pc := 34) k_Re_readsBrackets_34 rfl s_Re_124 ?_
                | (refine T_cV (As := [_]) (d1 := 5) (pc1 := 39) (pc := 36) k_Re_readsBrackets_36 rfl (by omega) (Nat.le_of_ble_eq_true rfl) rfl o_Re_isSignOf l_Re_86 rfl (ga G (by decide) rfl) rfl (c_Re_isSignOf (j := 8) G okt (by decide) hJ2P a1 (fun u3 ui => ?_) (fun un => ?_)) <;> try dsimp only [psh])
                | (with_reducible refine T_if_neN (tgt := 44) (pc1 := 42) (pc := 39) k_Re_readsBrackets_39 (by decide) (by decide) (by omega) (fun hc => ?_) (fun hc => ?_) <;> first | (exfalso; omega) | skip)
                | refine T_if_ne_t (tgt := 44) (pc := 39) k_Re_readsBrackets_39 rfl (by decide) ?_
                | refine T_if_ne_f (tgt := 44) (pc1 := 42) (pc := 39) k_Re_readsBrackets_39 rfl rfl (by decide) ?_
                | refine T_if_ne (tgt := 44) (pc1 := 42) (pc := 39) k_Re_readsBrackets_39 rfl rfl (fun hc => ?_) (fun hc => ?_)
                | refine T_retI (pc := 43) k_Re_readsBrackets_43 rfl (by first | rfl | decide | assumption) ?_)
              all_goals try (exfalso; omega)
              · have e41 : T (pS (prs T z key f 0 no (op + 1) (nx T z p)).2) = nI 41 := Decidable.not_not.mp (fun q => ui (l8.mpr q))
                rw [if_pos (sgI_t u3 e41)] at hr
                have g8 := hJ2P.2.2.2.2.2.2.2.1
                have sn : PCo T z key no op (prs T z key f 0 no (op + 1) (nx T z p)).2 (pI J2 66 8 (nI (op + 1 - 1))) := PCo_op hJ2P
                repeat' (first
                  | ((first | refine T_aload_n (pc1 := 45) (pc := 44) k_Re_readsBrackets_44 rfl rfl ?_ | refine T_aload_nN (pc1 := 45) (pc := 44) k_Re_readsBrackets_44 rfl rfl ?_) <;> try (refine T_dup (pc1 := 46) (pc := 45) k_Re_readsBrackets_45 rfl rfl ?_ <;> try (refine T_getV (pc1 := 49) (pc := 46) k_Re_readsBrackets_46 rfl f_Re_41 rfl (by first | assumption | exact ga G (by decide) rfl | exact lgA LG (by omega)) (by first | assumption | (simp (disch := omega) only [pI_eq, pI_row, pI_col, va_up_self, va_up_ne, ne_eq, not_false_eq_true] <;> rfl) | rfl) ?_ <;> try (refine T_iconst (v := (nI 1)) (pc1 := 50) (pc := 49) k_Re_readsBrackets_49 rfl (by decide) ?_ <;> try ((first | with_reducible refine T_isubN (pc1 := 51) (pc := 50) k_Re_readsBrackets_50 (by decide) (by omega) ?_ | refine T_isub (pc1 := 51) (pc := 50) k_Re_readsBrackets_50 rfl ?_) <;> try (refine T_putI (pc1 := 54) (pc := 51) k_Re_readsBrackets_51 rfl f_Re_41 rfl (by first | assumption | exact ga G (by decide) rfl | exact lgA LG (by omega)) (by first | rfl | decide | assumption) (by first | rfl | decide | assumption) ?_ <;> try ((first | refine T_aload_n (pc1 := 55) (pc := 54) k_Re_readsBrackets_54 rfl rfl ?_ | refine T_aload_nN (pc1 := 55) (pc := 54) k_Re_readsBrackets_54 rfl rfl ?_) <;> try ((refine T_cV (As := []) (d1 := 2) (pc1 := 58) (pc := 55) k_Re_readsBrackets_55 rfl (by omega) (Nat.le_of_ble_eq_true rfl) rfl o_Re_next l_Re_47 rfl (ga G (by decide) rfl) rfl (c_Re_nextO G okt sn a1 (fun J3 hJ3 hJ3P => ?_)) <;> try dsimp only [psh]) <;> try (refine T_iconst (v := (nI 1)) (pc1 := 59) (pc := 58) k_Re_readsBrackets_58 rfl (by decide) ?_ <;> try (refine T_retI (pc := 59) k_Re_readsBrackets_59 rfl (by first | rfl | decide | assumption) ?_))))))))))
                  | refine T_dup (pc1 := 46) (pc := 45) k_Re_readsBrackets_45 rfl rfl ?_
                  | refine T_getV (pc1 := 49) (pc := 46) k_Re_readsBrackets_46 rfl f_Re_41 rfl (by first | assumption | exact ga G (by decide) rfl | exact lgA LG (by omega)) (by first | assumption | (simp (disch := omega) only [pI_eq, pI_row, pI_col, va_up_self, va_up_ne, ne_eq, not_false_eq_true] <;> rfl) | rfl) ?_
                  | refine T_iconst (v := (nI 1)) (pc1 := 50) (pc := 49) k_Re_readsBrackets_49 rfl (by decide) ?_
                  | with_reducible refine T_isubN (pc1 := 51) (pc := 50) k_Re_readsBrackets_50 (by decide) (by omega) ?_
                  | refine T_isub (pc1 := 51) (pc := 50) k_Re_readsBrackets_50 rfl ?_
                  | refine T_putI (pc1 := 54) (pc := 51) k_Re_readsBrackets_51 rfl f_Re_41 rfl (by first | assumption | exact ga G (by decide) rfl | exact lgA LG (by omega)) (by first | rfl | decide | assumption) (by first | rfl | decide | assumption) ?_
                  | refine T_aload_n (pc1 := 55) (pc := 54) k_Re_readsBrackets_54 rfl rfl ?_
                  | refine T_aload_nN (pc1 := 55) (pc := 54) k_Re_readsBrackets_54 rfl rfl ?_
                  | (refine T_cV (As := []) (d1 := 2) (pc1 := 58) (pc := 55) k_Re_readsBrackets_55 rfl (by omega) (Nat.le_of_ble_eq_true rfl) rfl o_Re_next l_Re_47 rfl (ga G (by decide) rfl) rfl (c_Re_nextO G okt sn a1 (fun J3 hJ3 hJ3P => ?_)) <;> try dsimp only [psh])
                  | refine T_iconst (v := (nI 1)) (pc1 := 59) (pc := 58) k_Re_readsBrackets_58 rfl (by decide) ?_
                  | refine T_retI (pc := 59) k_Re_readsBrackets_59 rfl (by first | rfl | decide | assumption) ?_)
                repeat' (first
                  | ((first | (with_reducible refine T_if_eqN (tgt := 60) (pc1 := 56) (pc := 53) k_Re_readsPiece_53 (by decide) (by decide) (by omega) (fun hc => ?_) (fun hc => ?_) <;> first | (exfalso; omega) | skip) | refine T_if_eq_t (tgt := 60) (pc := 53) k_Re_readsPiece_53 rfl (by decide) ?_ | refine T_if_eq_f (tgt := 60) (pc1 := 56) (pc := 53) k_Re_readsPiece_53 rfl rfl (by decide) ?_ | refine T_if_eq (tgt := 60) (pc1 := 56) (pc := 53) k_Re_readsPiece_53 rfl rfl (fun hc => ?_) (fun hc => ?_)))
                  | (refine T_iconst (v := (nI 1)) (pc1 := 57) (pc := 56) k_Re_readsPiece_56 rfl (by decide) ?_ <;> try (refine T_goto (tgt := 61) (pc := 57) k_Re_readsPiece_57 rfl ?_))
                  | (refine T_iconst (v := (nI 0)) (pc1 := 61) (pc := 60) k_Re_readsPiece_60 rfl (by decide) ?_)
                  | (refine T_retI (pc := 61) k_Re_readsPiece_61 rfl (by first | rfl | decide | assumption) ?_)
                  | refine T_goto (tgt := 61) (pc := 57) k_Re_readsPiece_57 rfl ?_)
                all_goals try (exfalso; omega)
                subst hr
                exact k0 J3 rfl (fr_tr (fr_pI fr_rf (Or.inl rfl)) (fr_tr hJ1 (fr_tr hJ2 (fr_tr (fr_pI fr_rf (Or.inl rfl)) hJ3)))) hJ3P
              · rw [if_neg (by
                  rw [sgI_f (un.imp id (fun q => l8.mp q))]
                  decide)] at hr
                repeat' (first
                  | ((first | (with_reducible refine T_if_eqN (tgt := 60) (pc1 := 56) (pc := 53) k_Re_readsPiece_53 (by decide) (by decide) (by omega) (fun hc => ?_) (fun hc => ?_) <;> first | (exfalso; omega) | skip) | refine T_if_eq_t (tgt := 60) (pc := 53) k_Re_readsPiece_53 rfl (by decide) ?_ | refine T_if_eq_f (tgt := 60) (pc1 := 56) (pc := 53) k_Re_readsPiece_53 rfl rfl (by decide) ?_ | refine T_if_eq (tgt := 60) (pc1 := 56) (pc := 53) k_Re_readsPiece_53 rfl rfl (fun hc => ?_) (fun hc => ?_)))
                  | (refine T_iconst (v := (nI 1)) (pc1 := 57) (pc := 56) k_Re_readsPiece_56 rfl (by decide) ?_ <;> try (refine T_goto (tgt := 61) (pc := 57) k_Re_readsPiece_57 rfl ?_))
                  | (refine T_iconst (v := (nI 0)) (pc1 := 61) (pc := 60) k_Re_readsPiece_60 rfl (by decide) ?_)
                  | (refine T_retI (pc := 61) k_Re_readsPiece_61 rfl (by first | rfl | decide | assumption) ?_)
                  | refine T_goto (tgt := 61) (pc := 57) k_Re_readsPiece_57 rfl ?_)
                all_goals try (exfalso; omega)
                subst hr
                exact k1 J2 rfl (fr_tr (fr_pI fr_rf (Or.inl rfl)) (fr_tr hJ1 hJ2)) hJ2P.2.1
            · rw [hb, if_pos rfl] at hr
              repeat' (first
                | ((first | (with_reducible refine T_if_eqN (tgt := 42) (pc1 := 33) (pc := 30) k_Re_readsBrackets_30 (by decide) (by decide) (by omega) (fun hc => ?_) (fun hc => ?_) <;> first | (exfalso; omega) | skip) | refine T_if_eq_t (tgt := 42) (pc := 30) k_Re_readsBrackets_30 rfl (by decide) ?_ | refine T_if_eq_f (tgt := 42) (pc1 := 33) (pc := 30) k_Re_readsBrackets_30 rfl rfl (by decide) ?_ | refine T_if_eq (tgt := 42) (pc1 := 33) (pc := 30) k_Re_readsBrackets_30 rfl rfl (fun hc => ?_) (fun hc => ?_)))
                | ((first | refine T_aload_n (pc1 := 34) (pc := 33) k_Re_readsBrackets_33 rfl rfl ?_ | refine T_aload_nN (pc1 := 34) (pc := 33) k_Re_readsBrackets_33 rfl rfl ?_) <;> try (refine T_ldcS (tx := ")") (j := 8) (pc1 := 36) (pc := 34) k_Re_readsBrackets_34 rfl s_Re_124 ?_ <;> try ((refine T_cV (As := [_]) (d1 := 5) (pc1 := 39) (pc := 36) k_Re_readsBrackets_36 rfl (by omega) (Nat.le_of_ble_eq_true rfl) rfl o_Re_isSignOf l_Re_86 rfl (ga G (by decide) rfl) rfl (c_Re_isSignOf (j := 8) G okt (by decide) hJ2P a1 (fun u3 ui => ?_) (fun un => ?_)) <;> try dsimp only [psh]) <;> try ((first | (with_reducible refine T_if_neN (tgt := 44) (pc1 := 42) (pc := 39) k_Re_readsBrackets_39 (by decide) (by decide) (by omega) (fun hc => ?_) (fun hc => ?_) <;> first | (exfalso; omega) | skip) | refine T_if_ne_t (tgt := 44) (pc := 39) k_Re_readsBrackets_39 rfl (by decide) ?_ | refine T_if_ne_f (tgt := 44) (pc1 := 42) (pc := 39) k_Re_readsBrackets_39 rfl rfl (by decide) ?_ | refine T_if_ne (tgt := 44) (pc1 := 42) (pc := 39) k_Re_readsBrackets_39 rfl rfl (fun hc => ?_) (fun hc => ?_))))))
                | (refine T_iconst (v := (nI 0)) (pc1 := 43) (pc := 42) k_Re_readsBrackets_42 rfl (by decide) ?_ <;> try (refine T_retI (pc := 43) k_Re_readsBrackets_43 rfl (by first | rfl | decide | assumption) ?_))
                | refine T_ldcS (tx := ")") (j := 8) (pc1 := 36) (pc := 34) k_Re_readsBrackets_34 rfl s_Re_124 ?_
                | (refine T_cV (As := [_]) (d1 := 5) (pc1 := 39) (pc := 36) k_Re_readsBrackets_36 rfl (by omega) (Nat.le_of_ble_eq_true rfl) rfl o_Re_isSignOf l_Re_86 rfl (ga G (by decide) rfl) rfl (c_Re_isSignOf (j := 8) G okt (by decide) hJ2P a1 (fun u3 ui => ?_) (fun un => ?_)) <;> try dsimp only [psh])
                | (with_reducible refine T_if_neN (tgt := 44) (pc1 := 42) (pc := 39) k_Re_readsBrackets_39 (by decide) (by decide) (by omega) (fun hc => ?_) (fun hc => ?_) <;> first | (exfalso; omega) | skip)
                | refine T_if_ne_t (tgt := 44) (pc := 39) k_Re_readsBrackets_39 rfl (by decide) ?_
                | refine T_if_ne_f (tgt := 44) (pc1 := 42) (pc := 39) k_Re_readsBrackets_39 rfl rfl (by decide) ?_
                | refine T_if_ne (tgt := 44) (pc1 := 42) (pc := 39) k_Re_readsBrackets_39 rfl rfl (fun hc => ?_) (fun hc => ?_)
                | refine T_retI (pc := 43) k_Re_readsBrackets_43 rfl (by first | rfl | decide | assumption) ?_)
              all_goals try (exfalso; omega)
              repeat' (first
                | ((first | (with_reducible refine T_if_eqN (tgt := 60) (pc1 := 56) (pc := 53) k_Re_readsPiece_53 (by decide) (by decide) (by omega) (fun hc => ?_) (fun hc => ?_) <;> first | (exfalso; omega) | skip) | refine T_if_eq_t (tgt := 60) (pc := 53) k_Re_readsPiece_53 rfl (by decide) ?_ | refine T_if_eq_f (tgt := 60) (pc1 := 56) (pc := 53) k_Re_readsPiece_53 rfl rfl (by decide) ?_ | refine T_if_eq (tgt := 60) (pc1 := 56) (pc := 53) k_Re_readsPiece_53 rfl rfl (fun hc => ?_) (fun hc => ?_)))
                | (refine T_iconst (v := (nI 1)) (pc1 := 57) (pc := 56) k_Re_readsPiece_56 rfl (by decide) ?_ <;> try (refine T_goto (tgt := 61) (pc := 57) k_Re_readsPiece_57 rfl ?_))
                | (refine T_iconst (v := (nI 0)) (pc1 := 61) (pc := 60) k_Re_readsPiece_60 rfl (by decide) ?_)
                | (refine T_retI (pc := 61) k_Re_readsPiece_61 rfl (by first | rfl | decide | assumption) ?_)
                | refine T_goto (tgt := 61) (pc := 57) k_Re_readsPiece_57 rfl ?_)
              all_goals try (exfalso; omega)
              subst hr
              exact k1 J2 rfl (fr_tr (fr_pI fr_rf (Or.inl rfl)) (fr_tr hJ1 hJ2)) hJ2P
          · rw [if_neg hn8] at hr
            have b0 := bad hr.symm
            repeat' (first
              | ((first | refine T_aload_n (pc1 := 1) (pc := 0) k_Re_readsBrackets_0 rfl rfl ?_ | refine T_aload_nN (pc1 := 1) (pc := 0) k_Re_readsBrackets_0 rfl rfl ?_) <;> try (refine T_getV (pc1 := 4) (pc := 1) k_Re_readsBrackets_1 rfl f_Re_41 rfl (by first | assumption | exact ga G (by decide) rfl | exact lgA LG (by omega)) (by first | assumption | (simp (disch := omega) only [pI_eq, pI_row, pI_col, va_up_self, va_up_ne, ne_eq, not_false_eq_true] <;> rfl) | rfl) ?_ <;> try (refine T_bipush (v := (nI 8)) (pc1 := 6) (pc := 4) k_Re_readsBrackets_4 rfl (by decide) ?_ <;> try ((first | (with_reducible refine T_icmp_ltN (tgt := 11) (pc1 := 9) (pc := 6) k_Re_readsBrackets_6 (by decide) (by decide) (by omega) (by omega) (fun hc => ?_) (fun hc => ?_) <;> first | (exfalso; omega) | skip) | refine T_icmp_lt_t (tgt := 11) (pc := 6) k_Re_readsBrackets_6 rfl (by decide) ?_ | refine T_icmp_lt_f (tgt := 11) (pc1 := 9) (pc := 6) k_Re_readsBrackets_6 rfl rfl (by decide) ?_ | refine T_icmp_lt (tgt := 11) (pc1 := 9) (pc := 6) k_Re_readsBrackets_6 rfl rfl (fun hc => ?_) (fun hc => ?_))))))
              | (refine T_iconst (v := (nI 0)) (pc1 := 10) (pc := 9) k_Re_readsBrackets_9 rfl (by decide) ?_ <;> try (refine T_retI (pc := 10) k_Re_readsBrackets_10 rfl (by first | rfl | decide | assumption) ?_))
              | refine T_getV (pc1 := 4) (pc := 1) k_Re_readsBrackets_1 rfl f_Re_41 rfl (by first | assumption | exact ga G (by decide) rfl | exact lgA LG (by omega)) (by first | assumption | (simp (disch := omega) only [pI_eq, pI_row, pI_col, va_up_self, va_up_ne, ne_eq, not_false_eq_true] <;> rfl) | rfl) ?_
              | refine T_bipush (v := (nI 8)) (pc1 := 6) (pc := 4) k_Re_readsBrackets_4 rfl (by decide) ?_
              | (with_reducible refine T_icmp_ltN (tgt := 11) (pc1 := 9) (pc := 6) k_Re_readsBrackets_6 (by decide) (by decide) (by omega) (by omega) (fun hc => ?_) (fun hc => ?_) <;> first | (exfalso; omega) | skip)
              | refine T_icmp_lt_t (tgt := 11) (pc := 6) k_Re_readsBrackets_6 rfl (by decide) ?_
              | refine T_icmp_lt_f (tgt := 11) (pc1 := 9) (pc := 6) k_Re_readsBrackets_6 rfl rfl (by decide) ?_
              | refine T_icmp_lt (tgt := 11) (pc1 := 9) (pc := 6) k_Re_readsBrackets_6 rfl rfl (fun hc => ?_) (fun hc => ?_)
              | refine T_retI (pc := 10) k_Re_readsBrackets_10 rfl (by first | rfl | decide | assumption) ?_)
            all_goals try (exfalso; omega)
            repeat' (first
              | ((first | (with_reducible refine T_if_eqN (tgt := 60) (pc1 := 56) (pc := 53) k_Re_readsPiece_53 (by decide) (by decide) (by omega) (fun hc => ?_) (fun hc => ?_) <;> first | (exfalso; omega) | skip) | refine T_if_eq_t (tgt := 60) (pc := 53) k_Re_readsPiece_53 rfl (by decide) ?_ | refine T_if_eq_f (tgt := 60) (pc1 := 56) (pc := 53) k_Re_readsPiece_53 rfl rfl (by decide) ?_ | refine T_if_eq (tgt := 60) (pc1 := 56) (pc := 53) k_Re_readsPiece_53 rfl rfl (fun hc => ?_) (fun hc => ?_)))
              | (refine T_iconst (v := (nI 1)) (pc1 := 57) (pc := 56) k_Re_readsPiece_56 rfl (by decide) ?_ <;> try (refine T_goto (tgt := 61) (pc := 57) k_Re_readsPiece_57 rfl ?_))
              | (refine T_iconst (v := (nI 0)) (pc1 := 61) (pc := 60) k_Re_readsPiece_60 rfl (by decide) ?_)
              | (refine T_retI (pc := 61) k_Re_readsPiece_61 rfl (by first | rfl | decide | assumption) ?_)
              | refine T_goto (tgt := 61) (pc := 57) k_Re_readsPiece_57 rfl ?_)
            all_goals first | exact b0 | (exfalso; omega)
        · -- neither
          have s1 : sgI T p 33 = false := sgI_f (sn.imp id (fun q => i6.mp q))
          have s2 : sgI T p 40 = false := sgI_f (tn.imp id (fun q => i7.mp q))
          rw [if_neg (by rw [s1]; decide), if_neg (by rw [s2]; decide), hlf] at hr
          exact bad hr.symm
theorem c_Re_rd (G : GeoOK g) (okt : okTp T z) (hk : key < 3) : ∀ f, RcP g T z key f ∧ ∀ m, m ≤ 5 → RcL g T z key f m := by
  have all : ∀ n f, f < n → RcP g T z key f ∧ ∀ m, m ≤ 5 → RcL g T z key f m := by
    intro n
    induction n with
    | zero => intro f hf; exact absurd hf (Nat.not_lt_zero _)
    | succ n ih =>
      intro f hf
      have hP : RcP g T z key f := c_Re_piece G okt hk (fun f' hf' => (ih f' (by omega)).1) (fun f' hf' => (ih f' (by omega)).2 0 (by decide))
      refine ⟨hP, fun m hm => ?_⟩
      by_cases h5 : m = 5
      · subst h5; exact c_Re_level5 G hP
      · exact c_Re_level (by omega) G okt hk (fun f' hf' => (ih f' (by omega)).2 (m + 1) (by omega))
  exact fun f => all (f + 1) f (Nat.lt_succ_self _)
end R3
