/-! The class: a whole text is read. -/
section R4
variable {g : Geo} {I : IM} {K : Option Value → Geo → IM → Prop}
set_option maxHeartbeats 4000000 in
theorem c_Re_readsKey {T : Row} {z no op : Nat} {p : PS} (G : GeoOK g) (hF : g.1.2.2.category = 1) (okt : okTp T z) (hT : CT I T z) (h1 : I 66 1 = nI (pS p)) (h2 : I 66 2 = nI (pE p)) (h3 : I 66 3 = nI (pO p)) (h5 : I 66 6 = nI (pM p)) (h6 : I 66 7 = nI (pV p)) (h7 : I 66 8 = nI op) (h8 : I 66 9 = nI no) (h9 : ∀ k, k < pM p → I 69 k = trc (pC p k)) (hw : wfP T z p) (k0 : ∀ key J, keyOf T p = some key → fre rdf I J → PCo T z key no op (nx T z p) J → K (some (.int (nI 1))) g J) (k1 : keyOf T p = none → K (some (.int (nI 0))) g I) : Cl 6 M_Re_readsKey [.ref 66] g I K := by
  show Rl 6 M_Re_readsKey 0 [some (.ref 66)] [] g I K
  have good : ∀ key, keyOf T p = some key → Rl 6 M_Re_readsKey 53 [some (.ref 66)] [] g (pI I 66 4 (nI key)) K := by
    intro key hkey
    have hP : PCo T z key no op p (pI I 66 4 (nI key)) := ⟨⟨(pI_row (by decide)).trans hT.1, fun k hk => (pI_row (by decide)).trans (hT.2 k hk)⟩, (pI_col (by decide)).trans h1, (pI_col (by decide)).trans h2, (pI_col (by decide)).trans h3, pI_eq, (pI_col (by decide)).trans h5, (pI_col (by decide)).trans h6, (pI_col (by decide)).trans h7, (pI_col (by decide)).trans h8, fun k hk => (pI_row (by decide)).trans (h9 k hk)⟩
    repeat' (first
      | ((first | refine T_aload_n (pc1 := 54) (pc := 53) k_Re_readsKey_53 rfl rfl ?_ | refine T_aload_nN (pc1 := 54) (pc := 53) k_Re_readsKey_53 rfl rfl ?_) <;> try ((refine T_cV (As := []) (d1 := 2) (pc1 := 57) (pc := 54) k_Re_readsKey_54 rfl (by decide) (Nat.le_of_ble_eq_true rfl) rfl o_Re_next l_Re_47 rfl (by first | assumption | exact ga G (by decide) rfl | exact lgA LG (by omega)) rfl (c_Re_nextO G okt hP hw (fun J hJ hJP => ?_)) <;> try dsimp only [psh]) <;> try (refine T_iconst (v := (nI 1)) (pc1 := 58) (pc := 57) k_Re_readsKey_57 rfl (by decide) ?_ <;> try (refine T_retI (pc := 58) k_Re_readsKey_58 rfl (by first | rfl | decide | assumption) ?_))))
      | (refine T_cV (As := []) (d1 := 2) (pc1 := 57) (pc := 54) k_Re_readsKey_54 rfl (by decide) (Nat.le_of_ble_eq_true rfl) rfl o_Re_next l_Re_47 rfl (by first | assumption | exact ga G (by decide) rfl | exact lgA LG (by omega)) rfl (c_Re_nextO G okt hP hw (fun J hJ hJP => ?_)) <;> try dsimp only [psh])
      | refine T_iconst (v := (nI 1)) (pc1 := 58) (pc := 57) k_Re_readsKey_57 rfl (by decide) ?_
      | refine T_retI (pc := 58) k_Re_readsKey_58 rfl (by first | rfl | decide | assumption) ?_)
    exact k0 key J hkey (fr_tr (fr_pI fr_rf (Or.inl rfl)) hJ) hJP
  repeat' (first
    | ((first | refine T_aload_n (pc1 := 1) (pc := 0) k_Re_readsKey_0 rfl rfl ?_ | refine T_aload_nN (pc1 := 1) (pc := 0) k_Re_readsKey_0 rfl rfl ?_) <;> try (refine T_ldcS (tx := "take") (j := 0) (pc1 := 3) (pc := 1) k_Re_readsKey_1 rfl s_Re_69 ?_ <;> try ((refine T_cV (As := [_]) (d1 := 5) (pc1 := 6) (pc := 3) k_Re_readsKey_3 rfl (by decide) (Nat.le_of_ble_eq_true rfl) rfl o_Re_isWord l_Re_71 rfl (by first | assumption | exact ga G (by decide) rfl | exact lgA LG (by omega)) rfl (c_Re_isWord (j := 0) G hF okt (by decide) hT h1 h2 h3 hw (fun s0 => ?_) (fun s0 => ?_)) <;> try dsimp only [psh]) <;> try ((first | (with_reducible refine T_if_eqN (tgt := 17) (pc1 := 9) (pc := 6) k_Re_readsKey_6 (by decide) (by decide) (by omega) (fun hc => ?_) (fun hc => ?_) <;> first | (exfalso; omega) | skip) | refine T_if_eq_t (tgt := 17) (pc := 6) k_Re_readsKey_6 rfl (by decide) ?_ | refine T_if_eq_f (tgt := 17) (pc1 := 9) (pc := 6) k_Re_readsKey_6 rfl rfl (by decide) ?_ | refine T_if_eq (tgt := 17) (pc1 := 9) (pc := 6) k_Re_readsKey_6 rfl rfl (fun hc => ?_) (fun hc => ?_))))))
    | ((first | refine T_aload_n (pc1 := 10) (pc := 9) k_Re_readsKey_9 rfl rfl ?_ | refine T_aload_nN (pc1 := 10) (pc := 9) k_Re_readsKey_9 rfl rfl ?_) <;> try (refine T_iconst (v := (nI 0)) (pc1 := 11) (pc := 10) k_Re_readsKey_10 rfl (by decide) ?_ <;> try (refine T_putI (pc1 := 14) (pc := 11) k_Re_readsKey_11 rfl f_Re_28 rfl (by first | assumption | exact ga G (by decide) rfl | exact lgA LG (by omega)) (by first | rfl | decide | assumption) (by first | rfl | decide | assumption) ?_ <;> try (refine T_goto (tgt := 53) (pc := 14) k_Re_readsKey_14 rfl ?_))))
    | ((first | refine T_aload_n (pc1 := 18) (pc := 17) k_Re_readsKey_17 rfl rfl ?_ | refine T_aload_nN (pc1 := 18) (pc := 17) k_Re_readsKey_17 rfl rfl ?_) <;> try (refine T_ldcS (tx := "think") (j := 1) (pc1 := 20) (pc := 18) k_Re_readsKey_18 rfl s_Re_75 ?_ <;> try ((refine T_cV (As := [_]) (d1 := 5) (pc1 := 23) (pc := 20) k_Re_readsKey_20 rfl (by decide) (Nat.le_of_ble_eq_true rfl) rfl o_Re_isWord l_Re_71 rfl (by first | assumption | exact ga G (by decide) rfl | exact lgA LG (by omega)) rfl (c_Re_isWord (j := 1) G hF okt (by decide) hT h1 h2 h3 hw (fun s1 => ?_) (fun s1 => ?_)) <;> try dsimp only [psh]) <;> try ((first | (with_reducible refine T_if_eqN (tgt := 34) (pc1 := 26) (pc := 23) k_Re_readsKey_23 (by decide) (by decide) (by omega) (fun hc => ?_) (fun hc => ?_) <;> first | (exfalso; omega) | skip) | refine T_if_eq_t (tgt := 34) (pc := 23) k_Re_readsKey_23 rfl (by decide) ?_ | refine T_if_eq_f (tgt := 34) (pc1 := 26) (pc := 23) k_Re_readsKey_23 rfl rfl (by decide) ?_ | refine T_if_eq (tgt := 34) (pc1 := 26) (pc := 23) k_Re_readsKey_23 rfl rfl (fun hc => ?_) (fun hc => ?_))))))
    | ((first | refine T_aload_n (pc1 := 27) (pc := 26) k_Re_readsKey_26 rfl rfl ?_ | refine T_aload_nN (pc1 := 27) (pc := 26) k_Re_readsKey_26 rfl rfl ?_) <;> try (refine T_iconst (v := (nI 1)) (pc1 := 28) (pc := 27) k_Re_readsKey_27 rfl (by decide) ?_ <;> try (refine T_putI (pc1 := 31) (pc := 28) k_Re_readsKey_28 rfl f_Re_28 rfl (by first | assumption | exact ga G (by decide) rfl | exact lgA LG (by omega)) (by first | rfl | decide | assumption) (by first | rfl | decide | assumption) ?_ <;> try (refine T_goto (tgt := 53) (pc := 31) k_Re_readsKey_31 rfl ?_))))
    | ((first | refine T_aload_n (pc1 := 35) (pc := 34) k_Re_readsKey_34 rfl rfl ?_ | refine T_aload_nN (pc1 := 35) (pc := 34) k_Re_readsKey_34 rfl rfl ?_) <;> try (refine T_ldcS (tx := "fine") (j := 2) (pc1 := 37) (pc := 35) k_Re_readsKey_35 rfl s_Re_77 ?_ <;> try ((refine T_cV (As := [_]) (d1 := 5) (pc1 := 40) (pc := 37) k_Re_readsKey_37 rfl (by decide) (Nat.le_of_ble_eq_true rfl) rfl o_Re_isWord l_Re_71 rfl (by first | assumption | exact ga G (by decide) rfl | exact lgA LG (by omega)) rfl (c_Re_isWord (j := 2) G hF okt (by decide) hT h1 h2 h3 hw (fun s2 => ?_) (fun s2 => ?_)) <;> try dsimp only [psh]) <;> try ((first | (with_reducible refine T_if_eqN (tgt := 51) (pc1 := 43) (pc := 40) k_Re_readsKey_40 (by decide) (by decide) (by omega) (fun hc => ?_) (fun hc => ?_) <;> first | (exfalso; omega) | skip) | refine T_if_eq_t (tgt := 51) (pc := 40) k_Re_readsKey_40 rfl (by decide) ?_ | refine T_if_eq_f (tgt := 51) (pc1 := 43) (pc := 40) k_Re_readsKey_40 rfl rfl (by decide) ?_ | refine T_if_eq (tgt := 51) (pc1 := 43) (pc := 40) k_Re_readsKey_40 rfl rfl (fun hc => ?_) (fun hc => ?_))))))
    | ((first | refine T_aload_n (pc1 := 44) (pc := 43) k_Re_readsKey_43 rfl rfl ?_ | refine T_aload_nN (pc1 := 44) (pc := 43) k_Re_readsKey_43 rfl rfl ?_) <;> try (refine T_iconst (v := (nI 2)) (pc1 := 45) (pc := 44) k_Re_readsKey_44 rfl (by decide) ?_ <;> try (refine T_putI (pc1 := 48) (pc := 45) k_Re_readsKey_45 rfl f_Re_28 rfl (by first | assumption | exact ga G (by decide) rfl | exact lgA LG (by omega)) (by first | rfl | decide | assumption) (by first | rfl | decide | assumption) ?_ <;> try (refine T_goto (tgt := 53) (pc := 48) k_Re_readsKey_48 rfl ?_))))
    | (refine T_iconst (v := (nI 0)) (pc1 := 52) (pc := 51) k_Re_readsKey_51 rfl (by decide) ?_ <;> try (refine T_retI (pc := 52) k_Re_readsKey_52 rfl (by first | rfl | decide | assumption) ?_))
    | refine T_ldcS (tx := "take") (j := 0) (pc1 := 3) (pc := 1) k_Re_readsKey_1 rfl s_Re_69 ?_
    | (refine T_cV (As := [_]) (d1 := 5) (pc1 := 6) (pc := 3) k_Re_readsKey_3 rfl (by decide) (Nat.le_of_ble_eq_true rfl) rfl o_Re_isWord l_Re_71 rfl (by first | assumption | exact ga G (by decide) rfl | exact lgA LG (by omega)) rfl (c_Re_isWord (j := 0) G hF okt (by decide) hT h1 h2 h3 hw (fun s0 => ?_) (fun s0 => ?_)) <;> try dsimp only [psh])
    | (with_reducible refine T_if_eqN (tgt := 17) (pc1 := 9) (pc := 6) k_Re_readsKey_6 (by decide) (by decide) (by omega) (fun hc => ?_) (fun hc => ?_) <;> first | (exfalso; omega) | skip)
    | refine T_if_eq_t (tgt := 17) (pc := 6) k_Re_readsKey_6 rfl (by decide) ?_
    | refine T_if_eq_f (tgt := 17) (pc1 := 9) (pc := 6) k_Re_readsKey_6 rfl rfl (by decide) ?_
    | refine T_if_eq (tgt := 17) (pc1 := 9) (pc := 6) k_Re_readsKey_6 rfl rfl (fun hc => ?_) (fun hc => ?_)
    | refine T_iconst (v := (nI 0)) (pc1 := 11) (pc := 10) k_Re_readsKey_10 rfl (by decide) ?_
    | refine T_putI (pc1 := 14) (pc := 11) k_Re_readsKey_11 rfl f_Re_28 rfl (by first | assumption | exact ga G (by decide) rfl | exact lgA LG (by omega)) (by first | rfl | decide | assumption) (by first | rfl | decide | assumption) ?_
    | refine T_goto (tgt := 53) (pc := 14) k_Re_readsKey_14 rfl ?_
    | refine T_ldcS (tx := "think") (j := 1) (pc1 := 20) (pc := 18) k_Re_readsKey_18 rfl s_Re_75 ?_
    | (refine T_cV (As := [_]) (d1 := 5) (pc1 := 23) (pc := 20) k_Re_readsKey_20 rfl (by decide) (Nat.le_of_ble_eq_true rfl) rfl o_Re_isWord l_Re_71 rfl (by first | assumption | exact ga G (by decide) rfl | exact lgA LG (by omega)) rfl (c_Re_isWord (j := 1) G hF okt (by decide) hT h1 h2 h3 hw (fun s1 => ?_) (fun s1 => ?_)) <;> try dsimp only [psh])
    | (with_reducible refine T_if_eqN (tgt := 34) (pc1 := 26) (pc := 23) k_Re_readsKey_23 (by decide) (by decide) (by omega) (fun hc => ?_) (fun hc => ?_) <;> first | (exfalso; omega) | skip)
    | refine T_if_eq_t (tgt := 34) (pc := 23) k_Re_readsKey_23 rfl (by decide) ?_
    | refine T_if_eq_f (tgt := 34) (pc1 := 26) (pc := 23) k_Re_readsKey_23 rfl rfl (by decide) ?_
    | refine T_if_eq (tgt := 34) (pc1 := 26) (pc := 23) k_Re_readsKey_23 rfl rfl (fun hc => ?_) (fun hc => ?_)
    | refine T_iconst (v := (nI 1)) (pc1 := 28) (pc := 27) k_Re_readsKey_27 rfl (by decide) ?_
    | refine T_putI (pc1 := 31) (pc := 28) k_Re_readsKey_28 rfl f_Re_28 rfl (by first | assumption | exact ga G (by decide) rfl | exact lgA LG (by omega)) (by first | rfl | decide | assumption) (by first | rfl | decide | assumption) ?_
    | refine T_goto (tgt := 53) (pc := 31) k_Re_readsKey_31 rfl ?_
    | refine T_ldcS (tx := "fine") (j := 2) (pc1 := 37) (pc := 35) k_Re_readsKey_35 rfl s_Re_77 ?_
    | (refine T_cV (As := [_]) (d1 := 5) (pc1 := 40) (pc := 37) k_Re_readsKey_37 rfl (by decide) (Nat.le_of_ble_eq_true rfl) rfl o_Re_isWord l_Re_71 rfl (by first | assumption | exact ga G (by decide) rfl | exact lgA LG (by omega)) rfl (c_Re_isWord (j := 2) G hF okt (by decide) hT h1 h2 h3 hw (fun s2 => ?_) (fun s2 => ?_)) <;> try dsimp only [psh])
    | (with_reducible refine T_if_eqN (tgt := 51) (pc1 := 43) (pc := 40) k_Re_readsKey_40 (by decide) (by decide) (by omega) (fun hc => ?_) (fun hc => ?_) <;> first | (exfalso; omega) | skip)
    | refine T_if_eq_t (tgt := 51) (pc := 40) k_Re_readsKey_40 rfl (by decide) ?_
    | refine T_if_eq_f (tgt := 51) (pc1 := 43) (pc := 40) k_Re_readsKey_40 rfl rfl (by decide) ?_
    | refine T_if_eq (tgt := 51) (pc1 := 43) (pc := 40) k_Re_readsKey_40 rfl rfl (fun hc => ?_) (fun hc => ?_)
    | refine T_iconst (v := (nI 2)) (pc1 := 45) (pc := 44) k_Re_readsKey_44 rfl (by decide) ?_
    | refine T_putI (pc1 := 48) (pc := 45) k_Re_readsKey_45 rfl f_Re_28 rfl (by first | assumption | exact ga G (by decide) rfl | exact lgA LG (by omega)) (by first | rfl | decide | assumption) (by first | rfl | decide | assumption) ?_
    | refine T_goto (tgt := 53) (pc := 48) k_Re_readsKey_48 rfl ?_
    | refine T_retI (pc := 52) k_Re_readsKey_52 rfl (by first | rfl | decide | assumption) ?_)
  · exact good 0 (by rw [keyOf, if_pos s0])
  · exact good 1 (by rw [keyOf, if_neg (by rw [s0]; decide), if_pos s1])
  · exact good 2 (by rw [keyOf, if_neg (by rw [s0]; decide), if_neg (by rw [s1]; decide), if_pos s2])
  · exact k1 (by rw [keyOf, if_neg (by rw [s0]; decide), if_neg (by rw [s1]; decide), if_neg (by rw [s2]; decide)])
set_option maxHeartbeats 4000000 in
theorem c_Re_readsWhole {T C0 : Row} {z : Nat} (G : GeoOK g) (hF : g.1.2.2.category = 1) (okt : okTp T z) (hT : CT I T z) (k0 : ∀ J, (rdA T z C0).1 = false → fre rdf I J → J 66 4 = nI (rdA T z C0).2.1 → J 66 6 = nI (pM (rdA T z C0).2.2) → J 66 7 = nI (pV (rdA T z C0).2.2) → (∀ k, k < pM (rdA T z C0).2.2 → J 69 k = trc (pC (rdA T z C0).2.2 k)) → K (some (.int (nI 1))) g J) (k1 : ∀ J, (rdA T z C0).1 = true → fre rdf I J → J 66 1 = nI (pS (rdA T z C0).2.2) → K (some (.int (nI 0))) g J) : Cl 151 M_Re_readsWhole [.ref 66] g I K := by
  show Rl 151 M_Re_readsWhole 0 [some (.ref 66)] [] g I K
  have st : ∀ I1 : IM, fre rdf I I1 → CT I1 T z → I1 66 2 = nI 0 → I1 66 3 = nI 0 → I1 66 6 = nI 0 → I1 66 7 = nI 0 → I1 66 8 = nI 0 → I1 66 9 = nI 0 → Rl 151 M_Re_readsWhole 30 [some (.ref 66)] [] g I1 K := by
    intro I1 hI1 hT1 a2 a3 a6 a7 a8 a9
    repeat' (first
      | ((first | refine T_aload_n (pc1 := 31) (pc := 30) k_Re_readsWhole_30 rfl rfl ?_ | refine T_aload_nN (pc1 := 31) (pc := 30) k_Re_readsWhole_30 rfl rfl ?_) <;> try ((refine T_cV (As := []) (d1 := 2) (pc1 := 34) (pc := 31) k_Re_readsWhole_31 rfl (by decide) (Nat.le_of_ble_eq_true rfl) rfl o_Re_next l_Re_47 rfl (by first | assumption | exact ga G (by decide) rfl | exact lgA LG (by omega)) rfl (c_Re_next (T := T) (z := z) G okt hT1 a2 (Nat.zero_le _) a3 (by decide) (fun J hJ hk j1 j2 j3 => ?_)) <;> try dsimp only [psh])))
      | (refine T_cV (As := []) (d1 := 2) (pc1 := 34) (pc := 31) k_Re_readsWhole_31 rfl (by decide) (Nat.le_of_ble_eq_true rfl) rfl o_Re_next l_Re_47 rfl (by first | assumption | exact ga G (by decide) rfl | exact lgA LG (by omega)) rfl (c_Re_next (T := T) (z := z) G okt hT1 a2 (Nat.zero_le _) a3 (by decide) (fun J hJ hk j1 j2 j3 => ?_)) <;> try dsimp only [psh]))
    obtain ⟨n1, n2⟩ := nx_wf (p := p00 C0) okt (Nat.zero_le _)
    have b0 : CT J T z := ⟨by rw [hJ 67 (by decide)]; exact hT1.1, fun k hk => by rw [hJ 68 (by decide)]; exact hT1.2 k hk⟩
    have b1 : J 66 1 = nI (pS (nx T z (p00 C0))) := j1
    have b2 : J 66 2 = nI (pE (nx T z (p00 C0))) := j2
    have b3 : J 66 3 = nI (pO (nx T z (p00 C0))) := j3
    have b6 : J 66 6 = nI (pM (nx T z (p00 C0))) := (hk 6 (by decide) (by decide) (by decide)).trans a6
    have b7 : J 66 7 = nI (pV (nx T z (p00 C0))) := (hk 7 (by decide) (by decide) (by decide)).trans a7
    have b8 : J 66 8 = nI 0 := (hk 8 (by decide) (by decide) (by decide)).trans a8
    have b9 : J 66 9 = nI 0 := (hk 9 (by decide) (by decide) (by decide)).trans a9
    have bc : ∀ k, k < pM (nx T z (p00 C0)) → J 69 k = trc (pC (nx T z (p00 C0)) k) := fun k hk => absurd hk (Nat.not_lt_zero _)
    have hIJ : fre rdf I J := fr_tr hI1 (fr_x hJ (fun i hi => Or.inl (by simpa using hi)))
    clear j1 j2 j3 hk hJ
    unfold rdA at k0 k1
    repeat' (first
      | ((first | refine T_aload_n (pc1 := 35) (pc := 34) k_Re_readsWhole_34 rfl rfl ?_ | refine T_aload_nN (pc1 := 35) (pc := 34) k_Re_readsWhole_34 rfl rfl ?_) <;> try ((refine T_cV (As := []) (d1 := 6) (pc1 := 38) (pc := 35) k_Re_readsWhole_35 rfl (by decide) (Nat.le_of_ble_eq_true rfl) rfl o_Re_readsKey l_Re_50 rfl (by first | assumption | exact ga G (by decide) rfl | exact lgA LG (by omega)) rfl (c_Re_readsKey (no := 0) (op := 0) G hF okt b0 b1 b2 b3 b6 b7 b8 b9 bc n1 (fun key J2 hkey hJ2 hJ2P => ?_) (fun hkey => ?_)) <;> try dsimp only [psh]) <;> try ((first | (with_reducible refine T_if_eqN (tgt := 60) (pc1 := 41) (pc := 38) k_Re_readsWhole_38 (by decide) (by decide) (by omega) (fun hc => ?_) (fun hc => ?_) <;> first | (exfalso; omega) | skip) | refine T_if_eq_t (tgt := 60) (pc := 38) k_Re_readsWhole_38 rfl (by decide) ?_ | refine T_if_eq_f (tgt := 60) (pc1 := 41) (pc := 38) k_Re_readsWhole_38 rfl rfl (by decide) ?_ | refine T_if_eq (tgt := 60) (pc1 := 41) (pc := 38) k_Re_readsWhole_38 rfl rfl (fun hc => ?_) (fun hc => ?_)))))
      | (refine T_iconst (v := (nI 0)) (pc1 := 61) (pc := 60) k_Re_readsWhole_60 rfl (by decide) ?_)
      | (refine T_retI (pc := 61) k_Re_readsWhole_61 rfl (by first | rfl | decide | assumption) ?_)
      | (refine T_cV (As := []) (d1 := 6) (pc1 := 38) (pc := 35) k_Re_readsWhole_35 rfl (by decide) (Nat.le_of_ble_eq_true rfl) rfl o_Re_readsKey l_Re_50 rfl (by first | assumption | exact ga G (by decide) rfl | exact lgA LG (by omega)) rfl (c_Re_readsKey (no := 0) (op := 0) G hF okt b0 b1 b2 b3 b6 b7 b8 b9 bc n1 (fun key J2 hkey hJ2 hJ2P => ?_) (fun hkey => ?_)) <;> try dsimp only [psh])
      | (with_reducible refine T_if_eqN (tgt := 60) (pc1 := 41) (pc := 38) k_Re_readsWhole_38 (by decide) (by decide) (by omega) (fun hc => ?_) (fun hc => ?_) <;> first | (exfalso; omega) | skip)
      | refine T_if_eq_t (tgt := 60) (pc := 38) k_Re_readsWhole_38 rfl (by decide) ?_
      | refine T_if_eq_f (tgt := 60) (pc1 := 41) (pc := 38) k_Re_readsWhole_38 rfl rfl (by decide) ?_
      | refine T_if_eq (tgt := 60) (pc1 := 41) (pc := 38) k_Re_readsWhole_38 rfl rfl (fun hc => ?_) (fun hc => ?_))
    · rw [hkey] at k0 k1
      dsimp only at k0 k1
      obtain ⟨k3, -⟩ := keyOf_lt hkey
      obtain ⟨p1, p2, p3, p4, p5⟩ := rd_pre okt hkey
      have q := prs_ok okt k3 700 0 0 0 (nx T z (nx T z (p00 C0))) (Or.inl (by decide)) p2 p3 p4 (by omega)
      have rd := (c_Re_rd G okt k3 700).2 0 (by decide) 0 0 (nx T z (nx T z (p00 C0))) J2
      generalize prs T z key 700 0 0 0 (nx T z (nx T z (p00 C0))) = r at *
      have w4 := q.1.2.2.2.1
      repeat' (first
        | ((first | refine T_aload_n (pc1 := 42) (pc := 41) k_Re_readsWhole_41 rfl rfl ?_ | refine T_aload_nN (pc1 := 42) (pc := 41) k_Re_readsWhole_41 rfl rfl ?_) <;> try (refine T_iconst (v := (nI 0)) (pc1 := 43) (pc := 42) k_Re_readsWhole_42 rfl (by decide) ?_ <;> try ((refine T_cV (As := [_]) (d1 := 40 + 2 * (8 - 0) + 8 * (8 - 0) + (6 - 0)) (pc1 := 46) (pc := 43) k_Re_readsWhole_43 rfl (by decide) (Nat.le_of_ble_eq_true rfl) rfl o_Re_readsLevel l_Re_54 rfl (ga G (by decide) rfl) rfl (rd _ (by decide) (by decide) p2 p3 p4 (by omega) hJ2P (fun J3 hb hJ3 hJ3P => ?_) (fun J3 hb hJ3 hJ3P => ?_)) <;> try dsimp only [psh]) <;> try ((first | (with_reducible refine T_if_eqN (tgt := 60) (pc1 := 49) (pc := 46) k_Re_readsWhole_46 (by decide) (by decide) (by omega) (fun hc => ?_) (fun hc => ?_) <;> first | (exfalso; omega) | skip) | refine T_if_eq_t (tgt := 60) (pc := 46) k_Re_readsWhole_46 rfl (by decide) ?_ | refine T_if_eq_f (tgt := 60) (pc1 := 49) (pc := 46) k_Re_readsWhole_46 rfl rfl (by decide) ?_ | refine T_if_eq (tgt := 60) (pc1 := 49) (pc := 46) k_Re_readsWhole_46 rfl rfl (fun hc => ?_) (fun hc => ?_))))))
        | (refine T_iconst (v := (nI 0)) (pc1 := 61) (pc := 60) k_Re_readsWhole_60 rfl (by decide) ?_)
        | (refine T_retI (pc := 61) k_Re_readsWhole_61 rfl (by first | rfl | decide | assumption) ?_)
        | refine T_iconst (v := (nI 0)) (pc1 := 43) (pc := 42) k_Re_readsWhole_42 rfl (by decide) ?_
        | (refine T_cV (As := [_]) (d1 := 40 + 2 * (8 - 0) + 8 * (8 - 0) + (6 - 0)) (pc1 := 46) (pc := 43) k_Re_readsWhole_43 rfl (by decide) (Nat.le_of_ble_eq_true rfl) rfl o_Re_readsLevel l_Re_54 rfl (ga G (by decide) rfl) rfl (rd _ (by decide) (by decide) p2 p3 p4 (by omega) hJ2P (fun J3 hb hJ3 hJ3P => ?_) (fun J3 hb hJ3 hJ3P => ?_)) <;> try dsimp only [psh])
        | (with_reducible refine T_if_eqN (tgt := 60) (pc1 := 49) (pc := 46) k_Re_readsWhole_46 (by decide) (by decide) (by omega) (fun hc => ?_) (fun hc => ?_) <;> first | (exfalso; omega) | skip)
        | refine T_if_eq_t (tgt := 60) (pc := 46) k_Re_readsWhole_46 rfl (by decide) ?_
        | refine T_if_eq_f (tgt := 60) (pc1 := 49) (pc := 46) k_Re_readsWhole_46 rfl rfl (by decide) ?_
        | refine T_if_eq (tgt := 60) (pc1 := 49) (pc := 46) k_Re_readsWhole_46 rfl rfl (fun hc => ?_) (fun hc => ?_))
      · rw [hb, if_neg (by decide)] at k0 k1
        obtain ⟨x0, x1, x2, x3, x4, x6, x7, x8, x9, xc⟩ := id hJ3P
        by_cases e0 : pO r.2 = 0
        · rw [if_pos e0] at k0
          repeat' (first
            | ((first | refine T_aload_n (pc1 := 50) (pc := 49) k_Re_readsWhole_49 rfl rfl ?_ | refine T_aload_nN (pc1 := 50) (pc := 49) k_Re_readsWhole_49 rfl rfl ?_) <;> try (refine T_getV (pc1 := 53) (pc := 50) k_Re_readsWhole_50 rfl f_Re_25 rfl (by first | assumption | exact ga G (by decide) rfl | exact lgA LG (by omega)) (by first | assumption | (simp (disch := omega) only [pI_eq, pI_row, pI_col, va_up_self, va_up_ne, ne_eq, not_false_eq_true] <;> rfl) | rfl) ?_ <;> try ((first | (with_reducible refine T_if_neN (tgt := 60) (pc1 := 56) (pc := 53) k_Re_readsWhole_53 (by decide) (by decide) (by omega) (fun hc => ?_) (fun hc => ?_) <;> first | (exfalso; omega) | skip) | refine T_if_ne_t (tgt := 60) (pc := 53) k_Re_readsWhole_53 rfl (by decide) ?_ | refine T_if_ne_f (tgt := 60) (pc1 := 56) (pc := 53) k_Re_readsWhole_53 rfl rfl (by decide) ?_ | refine T_if_ne (tgt := 60) (pc1 := 56) (pc := 53) k_Re_readsWhole_53 rfl rfl (fun hc => ?_) (fun hc => ?_)))))
            | (refine T_iconst (v := (nI 1)) (pc1 := 57) (pc := 56) k_Re_readsWhole_56 rfl (by decide) ?_ <;> try (refine T_goto (tgt := 61) (pc := 57) k_Re_readsWhole_57 rfl ?_))
            | (refine T_iconst (v := (nI 0)) (pc1 := 61) (pc := 60) k_Re_readsWhole_60 rfl (by decide) ?_)
            | (refine T_retI (pc := 61) k_Re_readsWhole_61 rfl (by first | rfl | decide | assumption) ?_)
            | refine T_getV (pc1 := 53) (pc := 50) k_Re_readsWhole_50 rfl f_Re_25 rfl (by first | assumption | exact ga G (by decide) rfl | exact lgA LG (by omega)) (by first | assumption | (simp (disch := omega) only [pI_eq, pI_row, pI_col, va_up_self, va_up_ne, ne_eq, not_false_eq_true] <;> rfl) | rfl) ?_
            | (with_reducible refine T_if_neN (tgt := 60) (pc1 := 56) (pc := 53) k_Re_readsWhole_53 (by decide) (by decide) (by omega) (fun hc => ?_) (fun hc => ?_) <;> first | (exfalso; omega) | skip)
            | refine T_if_ne_t (tgt := 60) (pc := 53) k_Re_readsWhole_53 rfl (by decide) ?_
            | refine T_if_ne_f (tgt := 60) (pc1 := 56) (pc := 53) k_Re_readsWhole_53 rfl rfl (by decide) ?_
            | refine T_if_ne (tgt := 60) (pc1 := 56) (pc := 53) k_Re_readsWhole_53 rfl rfl (fun hc => ?_) (fun hc => ?_)
            | refine T_goto (tgt := 61) (pc := 57) k_Re_readsWhole_57 rfl ?_)
          all_goals first | exact k0 J3 rfl (fr_tr hIJ (fr_tr hJ2 hJ3)) x4 x6 x7 xc | (exfalso; omega)
        · rw [if_neg e0] at k1
          repeat' (first
            | ((first | refine T_aload_n (pc1 := 50) (pc := 49) k_Re_readsWhole_49 rfl rfl ?_ | refine T_aload_nN (pc1 := 50) (pc := 49) k_Re_readsWhole_49 rfl rfl ?_) <;> try (refine T_getV (pc1 := 53) (pc := 50) k_Re_readsWhole_50 rfl f_Re_25 rfl (by first | assumption | exact ga G (by decide) rfl | exact lgA LG (by omega)) (by first | assumption | (simp (disch := omega) only [pI_eq, pI_row, pI_col, va_up_self, va_up_ne, ne_eq, not_false_eq_true] <;> rfl) | rfl) ?_ <;> try ((first | (with_reducible refine T_if_neN (tgt := 60) (pc1 := 56) (pc := 53) k_Re_readsWhole_53 (by decide) (by decide) (by omega) (fun hc => ?_) (fun hc => ?_) <;> first | (exfalso; omega) | skip) | refine T_if_ne_t (tgt := 60) (pc := 53) k_Re_readsWhole_53 rfl (by decide) ?_ | refine T_if_ne_f (tgt := 60) (pc1 := 56) (pc := 53) k_Re_readsWhole_53 rfl rfl (by decide) ?_ | refine T_if_ne (tgt := 60) (pc1 := 56) (pc := 53) k_Re_readsWhole_53 rfl rfl (fun hc => ?_) (fun hc => ?_)))))
            | (refine T_iconst (v := (nI 1)) (pc1 := 57) (pc := 56) k_Re_readsWhole_56 rfl (by decide) ?_ <;> try (refine T_goto (tgt := 61) (pc := 57) k_Re_readsWhole_57 rfl ?_))
            | (refine T_iconst (v := (nI 0)) (pc1 := 61) (pc := 60) k_Re_readsWhole_60 rfl (by decide) ?_)
            | (refine T_retI (pc := 61) k_Re_readsWhole_61 rfl (by first | rfl | decide | assumption) ?_)
            | refine T_getV (pc1 := 53) (pc := 50) k_Re_readsWhole_50 rfl f_Re_25 rfl (by first | assumption | exact ga G (by decide) rfl | exact lgA LG (by omega)) (by first | assumption | (simp (disch := omega) only [pI_eq, pI_row, pI_col, va_up_self, va_up_ne, ne_eq, not_false_eq_true] <;> rfl) | rfl) ?_
            | (with_reducible refine T_if_neN (tgt := 60) (pc1 := 56) (pc := 53) k_Re_readsWhole_53 (by decide) (by decide) (by omega) (fun hc => ?_) (fun hc => ?_) <;> first | (exfalso; omega) | skip)
            | refine T_if_ne_t (tgt := 60) (pc := 53) k_Re_readsWhole_53 rfl (by decide) ?_
            | refine T_if_ne_f (tgt := 60) (pc1 := 56) (pc := 53) k_Re_readsWhole_53 rfl rfl (by decide) ?_
            | refine T_if_ne (tgt := 60) (pc1 := 56) (pc := 53) k_Re_readsWhole_53 rfl rfl (fun hc => ?_) (fun hc => ?_)
            | refine T_goto (tgt := 61) (pc := 57) k_Re_readsWhole_57 rfl ?_)
          all_goals first | exact k1 J3 rfl (fr_tr hIJ (fr_tr hJ2 hJ3)) x1 | (exfalso; omega)
      · rw [hb, if_pos rfl] at k1
        exact k1 J3 rfl (fr_tr hIJ (fr_tr hJ2 hJ3)) hJ3P
    · rw [hkey] at k1
      exact k1 J rfl hIJ b1
  repeat' (first
    | ((first | refine T_aload_n (pc1 := 1) (pc := 0) k_Re_readsWhole_0 rfl rfl ?_ | refine T_aload_nN (pc1 := 1) (pc := 0) k_Re_readsWhole_0 rfl rfl ?_) <;> try (refine T_iconst (v := (nI 0)) (pc1 := 2) (pc := 1) k_Re_readsWhole_1 rfl (by decide) ?_ <;> try (refine T_putI (pc1 := 5) (pc := 2) k_Re_readsWhole_2 rfl f_Re_22 rfl (by first | assumption | exact ga G (by decide) rfl | exact lgA LG (by omega)) (by first | rfl | decide | assumption) (by first | rfl | decide | assumption) ?_ <;> try ((first | refine T_aload_n (pc1 := 6) (pc := 5) k_Re_readsWhole_5 rfl rfl ?_ | refine T_aload_nN (pc1 := 6) (pc := 5) k_Re_readsWhole_5 rfl rfl ?_) <;> try (refine T_iconst (v := (nI 0)) (pc1 := 7) (pc := 6) k_Re_readsWhole_6 rfl (by decide) ?_ <;> try (refine T_putI (pc1 := 10) (pc := 7) k_Re_readsWhole_7 rfl f_Re_25 rfl (by first | assumption | exact ga G (by decide) rfl | exact lgA LG (by omega)) (by first | rfl | decide | assumption) (by first | rfl | decide | assumption) ?_ <;> try ((first | refine T_aload_n (pc1 := 11) (pc := 10) k_Re_readsWhole_10 rfl rfl ?_ | refine T_aload_nN (pc1 := 11) (pc := 10) k_Re_readsWhole_10 rfl rfl ?_) <;> try (refine T_iconst (v := (nI 0)) (pc1 := 12) (pc := 11) k_Re_readsWhole_11 rfl (by decide) ?_ <;> try (refine T_putI (pc1 := 15) (pc := 12) k_Re_readsWhole_12 rfl f_Re_35 rfl (by first | assumption | exact ga G (by decide) rfl | exact lgA LG (by omega)) (by first | rfl | decide | assumption) (by first | rfl | decide | assumption) ?_ <;> try ((first | refine T_aload_n (pc1 := 16) (pc := 15) k_Re_readsWhole_15 rfl rfl ?_ | refine T_aload_nN (pc1 := 16) (pc := 15) k_Re_readsWhole_15 rfl rfl ?_) <;> try (refine T_iconst (v := (nI 0)) (pc1 := 17) (pc := 16) k_Re_readsWhole_16 rfl (by decide) ?_ <;> try (refine T_putI (pc1 := 20) (pc := 17) k_Re_readsWhole_17 rfl f_Re_38 rfl (by first | assumption | exact ga G (by decide) rfl | exact lgA LG (by omega)) (by first | rfl | decide | assumption) (by first | rfl | decide | assumption) ?_ <;> try ((first | refine T_aload_n (pc1 := 21) (pc := 20) k_Re_readsWhole_20 rfl rfl ?_ | refine T_aload_nN (pc1 := 21) (pc := 20) k_Re_readsWhole_20 rfl rfl ?_) <;> try (refine T_iconst (v := (nI 0)) (pc1 := 22) (pc := 21) k_Re_readsWhole_21 rfl (by decide) ?_))))))))))))))
    | (refine T_putI (pc1 := 25) (pc := 22) k_Re_readsWhole_22 rfl f_Re_41 rfl (by first | assumption | exact ga G (by decide) rfl | exact lgA LG (by omega)) (by first | rfl | decide | assumption) (by first | rfl | decide | assumption) ?_ <;> try ((first | refine T_aload_n (pc1 := 26) (pc := 25) k_Re_readsWhole_25 rfl rfl ?_ | refine T_aload_nN (pc1 := 26) (pc := 25) k_Re_readsWhole_25 rfl rfl ?_) <;> try (refine T_iconst (v := (nI 0)) (pc1 := 27) (pc := 26) k_Re_readsWhole_26 rfl (by decide) ?_ <;> try (refine T_putI (pc1 := 30) (pc := 27) k_Re_readsWhole_27 rfl f_Re_44 rfl (by first | assumption | exact ga G (by decide) rfl | exact lgA LG (by omega)) (by first | rfl | decide | assumption) (by first | rfl | decide | assumption) ?_))))
    | refine T_iconst (v := (nI 0)) (pc1 := 2) (pc := 1) k_Re_readsWhole_1 rfl (by decide) ?_
    | refine T_putI (pc1 := 5) (pc := 2) k_Re_readsWhole_2 rfl f_Re_22 rfl (by first | assumption | exact ga G (by decide) rfl | exact lgA LG (by omega)) (by first | rfl | decide | assumption) (by first | rfl | decide | assumption) ?_
    | refine T_aload_n (pc1 := 6) (pc := 5) k_Re_readsWhole_5 rfl rfl ?_
    | refine T_aload_nN (pc1 := 6) (pc := 5) k_Re_readsWhole_5 rfl rfl ?_
    | refine T_iconst (v := (nI 0)) (pc1 := 7) (pc := 6) k_Re_readsWhole_6 rfl (by decide) ?_
    | refine T_putI (pc1 := 10) (pc := 7) k_Re_readsWhole_7 rfl f_Re_25 rfl (by first | assumption | exact ga G (by decide) rfl | exact lgA LG (by omega)) (by first | rfl | decide | assumption) (by first | rfl | decide | assumption) ?_
    | refine T_aload_n (pc1 := 11) (pc := 10) k_Re_readsWhole_10 rfl rfl ?_
    | refine T_aload_nN (pc1 := 11) (pc := 10) k_Re_readsWhole_10 rfl rfl ?_
    | refine T_iconst (v := (nI 0)) (pc1 := 12) (pc := 11) k_Re_readsWhole_11 rfl (by decide) ?_
    | refine T_putI (pc1 := 15) (pc := 12) k_Re_readsWhole_12 rfl f_Re_35 rfl (by first | assumption | exact ga G (by decide) rfl | exact lgA LG (by omega)) (by first | rfl | decide | assumption) (by first | rfl | decide | assumption) ?_
    | refine T_aload_n (pc1 := 16) (pc := 15) k_Re_readsWhole_15 rfl rfl ?_
    | refine T_aload_nN (pc1 := 16) (pc := 15) k_Re_readsWhole_15 rfl rfl ?_
    | refine T_iconst (v := (nI 0)) (pc1 := 17) (pc := 16) k_Re_readsWhole_16 rfl (by decide) ?_
    | refine T_putI (pc1 := 20) (pc := 17) k_Re_readsWhole_17 rfl f_Re_38 rfl (by first | assumption | exact ga G (by decide) rfl | exact lgA LG (by omega)) (by first | rfl | decide | assumption) (by first | rfl | decide | assumption) ?_
    | refine T_aload_n (pc1 := 21) (pc := 20) k_Re_readsWhole_20 rfl rfl ?_
    | refine T_aload_nN (pc1 := 21) (pc := 20) k_Re_readsWhole_20 rfl rfl ?_
    | refine T_iconst (v := (nI 0)) (pc1 := 22) (pc := 21) k_Re_readsWhole_21 rfl (by decide) ?_
    | refine T_aload_n (pc1 := 26) (pc := 25) k_Re_readsWhole_25 rfl rfl ?_
    | refine T_aload_nN (pc1 := 26) (pc := 25) k_Re_readsWhole_25 rfl rfl ?_
    | refine T_iconst (v := (nI 0)) (pc1 := 27) (pc := 26) k_Re_readsWhole_26 rfl (by decide) ?_
    | refine T_putI (pc1 := 30) (pc := 27) k_Re_readsWhole_27 rfl f_Re_44 rfl (by first | assumption | exact ga G (by decide) rfl | exact lgA LG (by omega)) (by first | rfl | decide | assumption) (by first | rfl | decide | assumption) ?_)
  refine st _ (fr_pI (fr_pI (fr_pI (fr_pI (fr_pI (fr_pI fr_rf (Or.inl rfl)) (Or.inl rfl)) (Or.inl rfl)) (Or.inl rfl)) (Or.inl rfl)) (Or.inl rfl)) ⟨?_, fun k hk => ?_⟩ ?_ ?_ ?_ ?_ ?_ ?_
  · simp (disch := decide) only [pI_row, ne_eq]; exact hT.1
  · simp (disch := decide) only [pI_row, ne_eq]; exact hT.2 k hk
  all_goals simp (disch := decide) only [pI_eq, pI_col, ne_eq]
end R4
