/-! The model: pour, reads, copy. -/
section PU11
theorem pour_bad {N So Si Pl : Row} {n : Nat} {s : Int32} (h : ¬ rg 4 s) : pourA N n So Si Pl s = cBAD ∧ pourN N n So Si Pl s = N := ⟨by rw [pourA, if_neg h], by rw [pourN, if_neg (fun q => h q.1)]⟩
theorem pour_no {N So Si Pl : Row} {n j : Nat} (hj : j < 4) (h : So j = -1) : pourA N n So Si Pl (nI j) = cNOTHING ∧ pourN N n So Si Pl (nI j) = N := by
  have e : (nI j).toNatClampNeg = j := nI_clamp (by omega)
  unfold pourA pourN okPour
  rw [e]
  exact ⟨by rw [if_pos (rg_nI hj (by omega)), if_pos h], by rw [if_neg (fun q => q.2 h)]⟩
theorem pour_ok {N So Si Pl : Row} {n j z : Nat} (hj : j < 4) (h : ¬ So j = -1) (h2 : Si j = nI z) (hz : z ≤ 24) : pourA N n So Si Pl (nI j) = nI (prC N (shv Pl j) (min n z)) ∧ pourN N n So Si Pl (nI j) = prN N (shv Pl j) (min n z) := by
  have e : (nI j).toNatClampNeg = j := nI_clamp (by omega)
  unfold pourA pourN okPour pourM
  rw [e, h2, nI_clamp (by omega)]
  exact ⟨by rw [if_pos (rg_nI hj (by omega)), if_neg h], by rw [if_pos ⟨rg_nI hj (by omega), h⟩]⟩
theorem reads_bad {N So Si Pl : Row} {s : Int32} (h : ¬ rg 4 s) : readsA N So Si Pl s = cBAD := by rw [readsA, if_neg h]
theorem reads_no {N So Si Pl : Row} {j : Nat} (hj : j < 4) (h : So j = -1) : readsA N So Si Pl (nI j) = cNOTHING := by
  have e : (nI j).toNatClampNeg = j := nI_clamp (by omega)
  unfold readsA
  rw [e, if_pos (rg_nI hj (by omega)), if_pos h]
theorem reads_ok {N So Si Pl : Row} {j z : Nat} (hj : j < 4) (h : ¬ So j = -1) (h2 : Si j = nI z) (hz : z ≤ 24) : readsA N So Si Pl (nI j) = oNo (lsq (rdP N (shv Pl j)) 0 z) := by
  have e : (nI j).toNatClampNeg = j := nI_clamp (by omega)
  unfold readsA
  rw [e, h2, nI_clamp (by omega), if_pos (rg_nI hj (by omega)), if_neg h]
theorem copy_bad {So Si Pl : Row} {f p t a m : Int32} (h : ¬ (rg 4 f ∧ rg 4 t)) : copyA So Si f p t a m = cBAD ∧ copyP So Si Pl f p t a m = Pl := ⟨by rw [copyA, if_neg h], by rw [copyP, if_neg (fun q => h q.1)]⟩
theorem copy_no {So Si Pl : Row} {j k : Nat} {p a m : Int32} (hj : j < 4) (hk : k < 4) (h : So j = -1 ∨ So k = -1) : copyA So Si (nI j) p (nI k) a m = cNOTHING ∧ copyP So Si Pl (nI j) p (nI k) a m = Pl := by
  have e : (nI j).toNatClampNeg = j := nI_clamp (by omega)
  have e2 : (nI k).toNatClampNeg = k := nI_clamp (by omega)
  unfold copyA copyP okCopy
  rw [e, e2]
  exact ⟨by rw [if_pos ⟨rg_nI hj (by omega), rg_nI hk (by omega)⟩, if_pos h], by rw [if_neg (fun q => h.elim q.2.1 q.2.2.1)]⟩
theorem copy_kd {So Si Pl : Row} {j k : Nat} {p a m : Int32} (hj : j < 4) (hk : k < 4) (h : ¬ (So j = -1 ∨ So k = -1)) (h2 : ¬ So j = So k) : copyA So Si (nI j) p (nI k) a m = cKIND ∧ copyP So Si Pl (nI j) p (nI k) a m = Pl := by
  have e : (nI j).toNatClampNeg = j := nI_clamp (by omega)
  have e2 : (nI k).toNatClampNeg = k := nI_clamp (by omega)
  unfold copyA copyP okCopy
  rw [e, e2]
  exact ⟨by rw [if_pos ⟨rg_nI hj (by omega), rg_nI hk (by omega)⟩, if_neg h, if_neg h2], by rw [if_neg (fun q => h2 q.2.2.2.1)]⟩
theorem copy_ix {So Si Pl : Row} {j k : Nat} {p a m : Int32} (hj : j < 4) (hk : k < 4) (h : ¬ (So j = -1 ∨ So k = -1)) (h2 : So j = So k) (h3 : ¬ (okRow Si j p m ∧ okRow Si k a m)) : copyA So Si (nI j) p (nI k) a m = cINDEX ∧ copyP So Si Pl (nI j) p (nI k) a m = Pl := by
  have e : (nI j).toNatClampNeg = j := nI_clamp (by omega)
  have e2 : (nI k).toNatClampNeg = k := nI_clamp (by omega)
  unfold copyA copyP okCopy
  rw [e, e2]
  exact ⟨by rw [if_pos ⟨rg_nI hj (by omega), rg_nI hk (by omega)⟩, if_neg h, if_pos h2, if_neg h3], by rw [if_neg (fun q => h3 q.2.2.2.2)]⟩
theorem copy_ok {So Si Pl : Row} {j k : Nat} {p a m : Int32} (hj : j < 4) (hk : k < 4) (h : ¬ (So j = -1 ∨ So k = -1)) (h2 : So j = So k) (h3 : okRow Si j p m ∧ okRow Si k a m) : copyA So Si (nI j) p (nI k) a m = m ∧ copyP So Si Pl (nI j) p (nI k) a m = va_cpy Pl Pl (24 * j + p.toNatClampNeg) (24 * k + a.toNatClampNeg) m.toNatClampNeg := by
  have e : (nI j).toNatClampNeg = j := nI_clamp (by omega)
  have e2 : (nI k).toNatClampNeg = k := nI_clamp (by omega)
  unfold copyA copyP okCopy
  rw [e, e2]
  exact ⟨by rw [if_pos ⟨rg_nI hj (by omega), rg_nI hk (by omega)⟩, if_neg h, if_pos h2, if_pos h3], by rw [if_pos ⟨⟨rg_nI hj (by omega), rg_nI hk (by omega)⟩, fun q => h (Or.inl q), fun q => h (Or.inr q), h2, h3⟩]⟩
theorem vcpy_s (f h : Row) (sp dp i : Nat) : va_up (va_cpy f h sp dp i) (dp + i) (f (sp + i)) = va_cpy f h sp dp (i + 1) := by
  funext x
  by_cases hx : x = dp + i
  · subst hx
    rw [va_up_self, pk_cpy_in (by omega) (by omega), show sp + (dp + i - dp) = sp + i by omega]
  · rw [va_up_ne _ _ hx]
    by_cases h1 : dp ≤ x ∧ x < dp + i
    · rw [pk_cpy_in h1.1 h1.2, pk_cpy_in h1.1 (by omega)]
    · rw [pk_cpy_out (by omega), pk_cpy_out (by omega)]
theorem vcpy_0 (f h : Row) (sp dp : Nat) : va_cpy f h sp dp 0 = h := funext fun x => pk_cpy_out (by omega)
end PU11
section M15
variable {g : Geo} {I : IM} {K : Option Value → Geo → IM → Prop}
set_option maxHeartbeats 4000000 in
theorem c_M_pour {N So Si Pl : Row} {n tn : Nat} {s : Int32} (G : GeoOK g) (hN : I 102 = N) (ok : okL N n tn) (hSo : I 114 = So) (hSi : I 115 = Si) (hPl : I 116 = Pl) (oks : okS So Si) (kk : ∀ J r, eqx [102] I J → J 102 = pourN N n So Si Pl s → r = pourA N n So Si Pl s → K (some (.int r)) g J) : Cl 3 M_M_pour [.ref 101, .int s] g I K := by
  show Rl 3 M_M_pour 0 [some (.ref 101), some (.int s), none, none, none, none] [] g I K
  obtain ⟨hn, h14, -⟩ := id ok
  by_cases hs : rg 4 s
  · obtain ⟨j, hj, rfl⟩ := rg_of hs (by omega)
    rcases oks j hj with ⟨h1, h2⟩ | ⟨h1, z, hz, h2⟩
    · obtain ⟨kA, kP⟩ := pour_no (N := N) (n := n) (So := So) (Si := Si) (Pl := Pl) hj h1
      rw [kA, kP] at kk
      repeat' (first
        | refine T_iload_n (pc1 := 1) (pc := 0) k_M_pour_0 rfl rfl ?_
        | (refine T_cS (As := [_]) (d1 := 2) (pc1 := 4) (pc := 1) k_M_pour_1 rfl (by decide) (Nat.le_of_ble_eq_true rfl) rfl o_M_isSheet l_M_193 rfl (c_M_isSheet (fun hw => ?_) (fun hw => ?_)) <;> try dsimp only [psh])
        | (with_reducible refine T_if_neN (tgt := 10) (pc1 := 7) (pc := 4) k_M_pour_4 (by decide) (by decide) (by omega) (fun hc => ?_) (fun hc => ?_) <;> first | (exfalso; omega) | skip)
        | refine T_if_ne_t (tgt := 10) (pc := 4) k_M_pour_4 rfl (by decide) ?_
        | refine T_if_ne_f (tgt := 10) (pc1 := 7) (pc := 4) k_M_pour_4 rfl rfl (by decide) ?_
        | refine T_if_ne (tgt := 10) (pc1 := 7) (pc := 4) k_M_pour_4 rfl rfl (fun hc => ?_) (fun hc => ?_)
        | refine T_ldc (v := (-1000000001)) (pc1 := 9) (pc := 7) k_M_pour_7 rfl c_M_111 ?_
        | refine T_retI (pc := 9) k_M_pour_9 rfl (by first | rfl | decide | assumption) ?_
        | refine T_aload_n (pc1 := 11) (pc := 10) k_M_pour_10 rfl rfl ?_
        | refine T_aload_nN (pc1 := 11) (pc := 10) k_M_pour_10 rfl rfl ?_
        | refine T_getR (pc1 := 14) (pc := 11) k_M_pour_11 rfl f_M_61 rfl (by first | exact ga G (by decide) rfl | assumption) (by first | exact gr G (by decide) rfl | assumption) ?_
        | refine T_iload_n (pc1 := 15) (pc := 14) k_M_pour_14 rfl rfl ?_
        | refine T_ialdN (pc1 := 16) (pc := 15) k_M_pour_15 rfl (by first | exact ga G (by decide) rfl | assumption) (by omega) (by omega) (by first | assumption | (simp (disch := omega) only [pI_eq, pI_row, pI_col, va_up_self, va_up_ne, ne_eq, not_false_eq_true, hSo, h1] <;> rfl) | rfl) ?_
        | refine T_iald (pc1 := 16) (pc := 15) k_M_pour_15 rfl (by first | exact ga G (by decide) rfl | assumption) (by assumption) ?_
        | (with_reducible refine T_if_geN (tgt := 22) (pc1 := 19) (pc := 16) k_M_pour_16 (by decide) (by decide) (by omega) ?_ <;> first | (exfalso; omega) | skip)
        | refine T_if_ge_t (tgt := 22) (pc := 16) k_M_pour_16 rfl (by decide) ?_
        | refine T_if_ge_f (tgt := 22) (pc1 := 19) (pc := 16) k_M_pour_16 rfl rfl (by decide) ?_
        | refine T_if_ge (tgt := 22) (pc1 := 19) (pc := 16) k_M_pour_16 rfl rfl (fun hc => ?_) (fun hc => ?_)
        | refine T_ldc (v := (-1000000011)) (pc1 := 21) (pc := 19) k_M_pour_19 rfl c_M_196 ?_
        | refine T_retI (pc := 21) k_M_pour_21 rfl (by first | rfl | decide | assumption) ?_)
      all_goals first | exact kk I _ eqx_rf hN rfl | (exfalso; exact hw hs)
    · have hne : ¬ So j = -1 := by rcases h1 with h | h <;> rw [h] <;> decide
      obtain ⟨kA, kP⟩ := pour_ok (N := N) (n := n) (So := So) (Si := Si) (Pl := Pl) hj hne h2 hz
      rw [kA, kP] at kk
      have loop : ∀ q b o4 o5 (J : IM), b + q = min n z → eqx [102] I J → J 102 = prN N (shv Pl j) b → Rl 3 M_M_pour 26 [some (.ref 101), some (.int (nI j)), some (.int (nI (prC N (shv Pl j) b))), some (.int (nI b)), o4, o5] [] g J K := by
        intro q
        induction q with
        | zero =>
          intro b o4 o5 J hb hJ hJN
          have e5 : J 102 5 = nI n := by rw [hJN, prN_ne _ (fun j hj => by omega)]; exact hn
          have e2 : J 115 j = nI z := by rw [hJ 115 (by decide), hSi]; exact h2
          have hb : b = min n z := by omega
          have kk := kk J _ hJ (by rw [← hb]; exact hJN) rfl
          rw [← hb] at kk
          repeat' (first
            | refine T_iload_n (pc1 := 1) (pc := 0) k_M_pour_0 rfl rfl ?_
            | (refine T_cS (As := [_]) (d1 := 2) (pc1 := 4) (pc := 1) k_M_pour_1 rfl (by decide) (Nat.le_of_ble_eq_true rfl) rfl o_M_isSheet l_M_193 rfl (c_M_isSheet (fun hw => ?_) (fun hw => ?_)) <;> try dsimp only [psh])
            | (with_reducible refine T_if_neN (tgt := 10) (pc1 := 7) (pc := 4) k_M_pour_4 (by decide) (by decide) (by omega) (fun hc => ?_) (fun hc => ?_) <;> first | (exfalso; omega) | skip)
            | refine T_if_ne_t (tgt := 10) (pc := 4) k_M_pour_4 rfl (by decide) ?_
            | refine T_if_ne_f (tgt := 10) (pc1 := 7) (pc := 4) k_M_pour_4 rfl rfl (by decide) ?_
            | refine T_if_ne (tgt := 10) (pc1 := 7) (pc := 4) k_M_pour_4 rfl rfl (fun hc => ?_) (fun hc => ?_)
            | refine T_ldc (v := (-1000000001)) (pc1 := 9) (pc := 7) k_M_pour_7 rfl c_M_111 ?_
            | refine T_retI (pc := 9) k_M_pour_9 rfl (by first | rfl | decide | assumption) ?_
            | refine T_aload_n (pc1 := 11) (pc := 10) k_M_pour_10 rfl rfl ?_
            | refine T_aload_nN (pc1 := 11) (pc := 10) k_M_pour_10 rfl rfl ?_
            | refine T_getR (pc1 := 14) (pc := 11) k_M_pour_11 rfl f_M_61 rfl (by first | exact ga G (by decide) rfl | assumption) (by first | exact gr G (by decide) rfl | assumption) ?_
            | refine T_iload_n (pc1 := 15) (pc := 14) k_M_pour_14 rfl rfl ?_
            | refine T_ialdN (pc1 := 16) (pc := 15) k_M_pour_15 rfl (by first | exact ga G (by decide) rfl | assumption) (by omega) (by omega) (by first | assumption | (simp (disch := omega) only [pI_eq, pI_row, pI_col, va_up_self, va_up_ne, ne_eq, not_false_eq_true, hSo, h1] <;> rfl) | rfl) ?_
            | refine T_iald (pc1 := 16) (pc := 15) k_M_pour_15 rfl (by first | exact ga G (by decide) rfl | assumption) (by assumption) ?_
            | (with_reducible refine T_if_geN (tgt := 22) (pc1 := 19) (pc := 16) k_M_pour_16 (by decide) (by decide) (by omega) ?_ <;> first | (exfalso; omega) | skip)
            | refine T_if_ge_t (tgt := 22) (pc := 16) k_M_pour_16 rfl (by decide) ?_
            | refine T_if_ge_f (tgt := 22) (pc1 := 19) (pc := 16) k_M_pour_16 rfl rfl (by decide) ?_
            | refine T_if_ge (tgt := 22) (pc1 := 19) (pc := 16) k_M_pour_16 rfl rfl (fun hc => ?_) (fun hc => ?_)
            | refine T_ldc (v := (-1000000011)) (pc1 := 21) (pc := 19) k_M_pour_19 rfl c_M_196 ?_
            | refine T_retI (pc := 21) k_M_pour_21 rfl (by first | rfl | decide | assumption) ?_
            | refine T_iconst (v := (nI 0)) (pc1 := 23) (pc := 22) k_M_pour_22 rfl (by decide) ?_
            | refine T_istore_n (pc1 := 24) (pc := 23) k_M_pour_23 rfl (Nat.le_of_ble_eq_true rfl) ?_
            | refine T_iconst (v := (nI 0)) (pc1 := 25) (pc := 24) k_M_pour_24 rfl (by decide) ?_
            | refine T_istore_n (pc1 := 26) (pc := 25) k_M_pour_25 rfl (Nat.le_of_ble_eq_true rfl) ?_
            | refine T_iload_n (pc1 := 27) (pc := 26) k_M_pour_26 rfl rfl ?_
            | refine T_aload_n (pc1 := 28) (pc := 27) k_M_pour_27 rfl rfl ?_
            | refine T_aload_nN (pc1 := 28) (pc := 27) k_M_pour_27 rfl rfl ?_
            | refine T_getR (pc1 := 31) (pc := 28) k_M_pour_28 rfl f_M_9 rfl (by first | exact ga G (by decide) rfl | assumption) (by first | exact gr G (by decide) rfl | assumption) ?_
            | refine T_iconst (v := (nI 5)) (pc1 := 32) (pc := 31) k_M_pour_31 rfl (by decide) ?_
            | refine T_ialdN (pc1 := 33) (pc := 32) k_M_pour_32 rfl (by first | exact ga G (by decide) rfl | assumption) (by omega) (by omega) (by first | assumption | (simp (disch := omega) only [pI_eq, pI_row, pI_col, va_up_self, va_up_ne, ne_eq, not_false_eq_true, hSo, h1] <;> rfl) | rfl) ?_
            | refine T_iald (pc1 := 33) (pc := 32) k_M_pour_32 rfl (by first | exact ga G (by decide) rfl | assumption) (by assumption) ?_
            | (with_reducible refine T_icmp_geN (tgt := 120) (pc1 := 36) (pc := 33) k_M_pour_33 (by decide) (by decide) (by omega) (by omega) (fun hc => ?_) (fun hc => ?_) <;> first | (exfalso; omega) | skip)
            | refine T_icmp_ge_t (tgt := 120) (pc := 33) k_M_pour_33 rfl (by decide) ?_
            | refine T_icmp_ge_f (tgt := 120) (pc1 := 36) (pc := 33) k_M_pour_33 rfl rfl (by decide) ?_
            | refine T_icmp_ge (tgt := 120) (pc1 := 36) (pc := 33) k_M_pour_33 rfl rfl (fun hc => ?_) (fun hc => ?_)
            | refine T_iload_n (pc1 := 37) (pc := 36) k_M_pour_36 rfl rfl ?_
            | refine T_aload_n (pc1 := 38) (pc := 37) k_M_pour_37 rfl rfl ?_
            | refine T_aload_nN (pc1 := 38) (pc := 37) k_M_pour_37 rfl rfl ?_
            | refine T_getR (pc1 := 41) (pc := 38) k_M_pour_38 rfl f_M_64 rfl (by first | exact ga G (by decide) rfl | assumption) (by first | exact gr G (by decide) rfl | assumption) ?_
            | refine T_iload_n (pc1 := 42) (pc := 41) k_M_pour_41 rfl rfl ?_
            | refine T_ialdN (pc1 := 43) (pc := 42) k_M_pour_42 rfl (by first | exact ga G (by decide) rfl | assumption) (by omega) (by omega) (by first | assumption | (simp (disch := omega) only [pI_eq, pI_row, pI_col, va_up_self, va_up_ne, ne_eq, not_false_eq_true, hSo, h1] <;> rfl) | rfl) ?_
            | refine T_iald (pc1 := 43) (pc := 42) k_M_pour_42 rfl (by first | exact ga G (by decide) rfl | assumption) (by assumption) ?_
            | (with_reducible refine T_icmp_geN (tgt := 120) (pc1 := 46) (pc := 43) k_M_pour_43 (by decide) (by decide) (by omega) (by omega) (fun hc => ?_) (fun hc => ?_) <;> first | (exfalso; omega) | skip)
            | refine T_icmp_ge_t (tgt := 120) (pc := 43) k_M_pour_43 rfl (by decide) ?_
            | refine T_icmp_ge_f (tgt := 120) (pc1 := 46) (pc := 43) k_M_pour_43 rfl rfl (by decide) ?_
            | refine T_icmp_ge (tgt := 120) (pc1 := 46) (pc := 43) k_M_pour_43 rfl rfl (fun hc => ?_) (fun hc => ?_)
            | refine T_aload_n (pc1 := 47) (pc := 46) k_M_pour_46 rfl rfl ?_
            | refine T_aload_nN (pc1 := 47) (pc := 46) k_M_pour_46 rfl rfl ?_
            | refine T_getR (pc1 := 50) (pc := 47) k_M_pour_47 rfl f_M_67 rfl (by first | exact ga G (by decide) rfl | assumption) (by first | exact gr G (by decide) rfl | assumption) ?_
            | refine T_bipush (v := (nI 24)) (pc1 := 52) (pc := 50) k_M_pour_50 rfl (by decide) ?_
            | refine T_iload_n (pc1 := 53) (pc := 52) k_M_pour_52 rfl rfl ?_
            | with_reducible refine T_imulN (pc1 := 54) (pc := 53) k_M_pour_53 (by decide) ?_
            | refine T_imul (pc1 := 54) (pc := 53) k_M_pour_53 rfl ?_
            | refine T_iload_n (pc1 := 55) (pc := 54) k_M_pour_54 rfl rfl ?_
            | with_reducible refine T_iaddN (pc1 := 56) (pc := 55) k_M_pour_55 (by decide) ?_
            | refine T_iadd (pc1 := 56) (pc := 55) k_M_pour_55 rfl ?_
            | refine T_ialdN (pc1 := 57) (pc := 56) k_M_pour_56 rfl (by first | exact ga G (by decide) rfl | assumption) (by omega) (by omega) (by first | assumption | (simp (disch := omega) only [pI_eq, pI_row, pI_col, va_up_self, va_up_ne, ne_eq, not_false_eq_true, hSo, h1] <;> rfl) | rfl) ?_
            | refine T_iald (pc1 := 57) (pc := 56) k_M_pour_56 rfl (by first | exact ga G (by decide) rfl | assumption) (by assumption) ?_
            | refine T_istore (pc1 := 59) (pc := 57) k_M_pour_57 rfl (Nat.le_of_ble_eq_true rfl) ?_
            | refine T_iload (pc1 := 61) (pc := 59) k_M_pour_59 rfl rfl ?_
            | refine T_ldc (v := (-1000000005)) (pc1 := 63) (pc := 61) k_M_pour_61 rfl c_M_103 ?_
            | (with_reducible refine T_icmp_neN (tgt := 75) (pc1 := 66) (pc := 63) k_M_pour_63 (by decide) (by decide) (by omega) (by omega) (fun hc => ?_) (fun hc => ?_) <;> first | (exfalso; omega) | skip)
            | refine T_icmp_ne_t (tgt := 75) (pc := 63) k_M_pour_63 rfl (by decide) ?_
            | refine T_icmp_ne_f (tgt := 75) (pc1 := 66) (pc := 63) k_M_pour_63 rfl rfl (by decide) ?_
            | refine T_icmp_ne (tgt := 75) (pc1 := 66) (pc := 63) k_M_pour_63 rfl rfl (fun hc => ?_) (fun hc => ?_)
            | refine T_aload_n (pc1 := 67) (pc := 66) k_M_pour_66 rfl rfl ?_
            | refine T_aload_nN (pc1 := 67) (pc := 66) k_M_pour_66 rfl rfl ?_
            | refine T_iload_n (pc1 := 68) (pc := 67) k_M_pour_67 rfl rfl ?_
            | refine T_iconst (v := (nI 5)) (pc1 := 69) (pc := 68) k_M_pour_68 rfl (by decide) ?_
            | (refine T_cV (As := [_, _]) (d1 := 1) (pc1 := 72) (pc := 69) k_M_pour_69 rfl (by decide) (Nat.le_of_ble_eq_true rfl) rfl o_M_bitIs l_M_124 rfl (by first | exact ga G (by decide) rfl | assumption) rfl (c_M_bitN G (by assumption) (by omega) (by omega) (by first | assumption | rfl) ?_) <;> try dsimp only [psh])
            | refine T_goto (tgt := 84) (pc := 72) k_M_pour_72 rfl ?_
            | refine T_iload (pc1 := 77) (pc := 75) k_M_pour_75 rfl rfl ?_
            | refine T_iconst (v := (nI 0)) (pc1 := 78) (pc := 77) k_M_pour_77 rfl (by decide) ?_
            | refine T_sipush (v := (nI 999)) (pc1 := 81) (pc := 78) k_M_pour_78 rfl (by decide) ?_
            | (refine T_cS (As := [_, _, _]) (d1 := 1) (pc1 := 84) (pc := 81) k_M_pour_81 rfl (by decide) (Nat.le_of_ble_eq_true rfl) rfl o_M_between l_M_130 rfl (c_M_between ?_) <;> try dsimp only [psh])
            | refine T_istore (pc1 := 86) (pc := 84) k_M_pour_84 rfl (Nat.le_of_ble_eq_true rfl) ?_
            | refine T_iload_n (pc1 := 87) (pc := 86) k_M_pour_86 rfl rfl ?_
            | refine T_aload_n (pc1 := 88) (pc := 87) k_M_pour_87 rfl rfl ?_
            | refine T_aload_nN (pc1 := 88) (pc := 87) k_M_pour_87 rfl rfl ?_
            | refine T_bipush (v := (nI 12)) (pc1 := 90) (pc := 88) k_M_pour_88 rfl (by decide) ?_
            | refine T_bipush (v := (nI 6)) (pc1 := 92) (pc := 90) k_M_pour_90 rfl (by decide) ?_
            | refine T_iload_n (pc1 := 93) (pc := 92) k_M_pour_92 rfl rfl ?_
            | with_reducible refine T_imulN (pc1 := 94) (pc := 93) k_M_pour_93 (by decide) ?_
            | refine T_imul (pc1 := 94) (pc := 93) k_M_pour_93 rfl ?_
            | with_reducible refine T_iaddN (pc1 := 95) (pc := 94) k_M_pour_94 (by decide) ?_
            | refine T_iadd (pc1 := 95) (pc := 94) k_M_pour_94 rfl ?_
            | refine T_iconst (v := (nI 5)) (pc1 := 96) (pc := 95) k_M_pour_95 rfl (by decide) ?_
            | with_reducible refine T_iaddN (pc1 := 97) (pc := 96) k_M_pour_96 (by decide) ?_
            | refine T_iadd (pc1 := 97) (pc := 96) k_M_pour_96 rfl ?_
            | refine T_iload (pc1 := 99) (pc := 97) k_M_pour_97 rfl rfl ?_
            | (refine T_cV (As := [_, _]) (d1 := 1) (pc1 := 102) (pc := 99) k_M_pour_99 rfl (by decide) (Nat.le_of_ble_eq_true rfl) rfl o_M_become l_M_156 rfl (by first | exact ga G (by decide) rfl | assumption) rfl (c_M_become G (by omega) ?_) <;> try dsimp only [psh])
            | refine T_iload (pc1 := 104) (pc := 102) k_M_pour_102 rfl rfl ?_
            | (with_reducible refine T_icmp_neN (tgt := 111) (pc1 := 107) (pc := 104) k_M_pour_104 (by decide) (by decide) (by omega) (by omega) (fun hc => ?_) (fun hc => ?_) <;> first | (exfalso; omega) | skip)
            | refine T_icmp_ne_t (tgt := 111) (pc := 104) k_M_pour_104 rfl (by decide) ?_
            | refine T_icmp_ne_f (tgt := 111) (pc1 := 107) (pc := 104) k_M_pour_104 rfl rfl (by decide) ?_
            | refine T_icmp_ne (tgt := 111) (pc1 := 107) (pc := 104) k_M_pour_104 rfl rfl (fun hc => ?_) (fun hc => ?_)
            | refine T_iconst (v := (nI 0)) (pc1 := 108) (pc := 107) k_M_pour_107 rfl (by decide) ?_
            | refine T_goto (tgt := 112) (pc := 108) k_M_pour_108 rfl ?_
            | refine T_iconst (v := (nI 1)) (pc1 := 112) (pc := 111) k_M_pour_111 rfl (by decide) ?_
            | with_reducible refine T_iaddN (pc1 := 113) (pc := 112) k_M_pour_112 (by decide) ?_
            | refine T_iadd (pc1 := 113) (pc := 112) k_M_pour_112 rfl ?_
            | refine T_istore_n (pc1 := 114) (pc := 113) k_M_pour_113 rfl (Nat.le_of_ble_eq_true rfl) ?_
            | refine T_iincN (b := 1) (pc1 := 117) (pc := 114) k_M_pour_114 rfl rfl (by decide) ?_
            | refine T_iinc (v := (nI 1)) (pc1 := 117) (pc := 114) k_M_pour_114 rfl rfl (by decide) ?_
            | refine T_goto (tgt := 26) (pc := 117) k_M_pour_117 rfl ?_
            | refine T_iload_n (pc1 := 121) (pc := 120) k_M_pour_120 rfl rfl ?_
            | refine T_retI (pc := 121) k_M_pour_121 rfl (by first | rfl | decide | assumption) ?_)
          all_goals first | exact kk | (exfalso; omega)
        | succ q ih =>
          intro b o4 o5 J hb hJ hJN
          have e5 : J 102 5 = nI n := by rw [hJN, prN_ne _ (fun j hj => by omega)]; exact hn
          have e2 : J 115 j = nI z := by rw [hJ 115 (by decide), hSi]; exact h2
          have e3 : J 116 (24 * j + b) = shv Pl j b := by rw [hJ 116 (by decide), hPl]; rfl
          have eb : J 102 (12 + 6 * b + 5) = bf N b 5 := by rw [hJN, prN_ne _ (fun j hj => by omega)]; rfl
          have hle := prC_le N (shv Pl j) b
          have ih := ih (b + 1)
          rw [prN, prC] at ih
          have nx : ∀ o4 v, v = prS N (shv Pl j) b → Rl 3 M_M_pour 84 [some (.ref 101), some (.int (nI j)), some (.int (nI (prC N (shv Pl j) b))), some (.int (nI b)), o4, o5] [.int v] g J K := by
            intro o4 v hv
            have ih := ih o4 (some (.int v)) (pI J 102 (12 + 6 * b + 5) v) (by omega) (eqx_pI hJ _ (by decide)) (by rw [pI_self, hJN, hv])
            rw [← hv] at ih
            repeat' (first
              | refine T_iload_n (pc1 := 1) (pc := 0) k_M_pour_0 rfl rfl ?_
              | (refine T_cS (As := [_]) (d1 := 2) (pc1 := 4) (pc := 1) k_M_pour_1 rfl (by decide) (Nat.le_of_ble_eq_true rfl) rfl o_M_isSheet l_M_193 rfl (c_M_isSheet (fun hw => ?_) (fun hw => ?_)) <;> try dsimp only [psh])
              | (with_reducible refine T_if_neN (tgt := 10) (pc1 := 7) (pc := 4) k_M_pour_4 (by decide) (by decide) (by omega) (fun hc => ?_) (fun hc => ?_) <;> first | (exfalso; omega) | skip)
              | refine T_if_ne_t (tgt := 10) (pc := 4) k_M_pour_4 rfl (by decide) ?_
              | refine T_if_ne_f (tgt := 10) (pc1 := 7) (pc := 4) k_M_pour_4 rfl rfl (by decide) ?_
              | refine T_if_ne (tgt := 10) (pc1 := 7) (pc := 4) k_M_pour_4 rfl rfl (fun hc => ?_) (fun hc => ?_)
              | refine T_ldc (v := (-1000000001)) (pc1 := 9) (pc := 7) k_M_pour_7 rfl c_M_111 ?_
              | refine T_retI (pc := 9) k_M_pour_9 rfl (by first | rfl | decide | assumption) ?_
              | refine T_aload_n (pc1 := 11) (pc := 10) k_M_pour_10 rfl rfl ?_
              | refine T_aload_nN (pc1 := 11) (pc := 10) k_M_pour_10 rfl rfl ?_
              | refine T_getR (pc1 := 14) (pc := 11) k_M_pour_11 rfl f_M_61 rfl (by first | exact ga G (by decide) rfl | assumption) (by first | exact gr G (by decide) rfl | assumption) ?_
              | refine T_iload_n (pc1 := 15) (pc := 14) k_M_pour_14 rfl rfl ?_
              | refine T_ialdN (pc1 := 16) (pc := 15) k_M_pour_15 rfl (by first | exact ga G (by decide) rfl | assumption) (by omega) (by omega) (by first | assumption | (simp (disch := omega) only [pI_eq, pI_row, pI_col, va_up_self, va_up_ne, ne_eq, not_false_eq_true, hSo, h1] <;> rfl) | rfl) ?_
              | refine T_iald (pc1 := 16) (pc := 15) k_M_pour_15 rfl (by first | exact ga G (by decide) rfl | assumption) (by assumption) ?_
              | (with_reducible refine T_if_geN (tgt := 22) (pc1 := 19) (pc := 16) k_M_pour_16 (by decide) (by decide) (by omega) ?_ <;> first | (exfalso; omega) | skip)
              | refine T_if_ge_t (tgt := 22) (pc := 16) k_M_pour_16 rfl (by decide) ?_
              | refine T_if_ge_f (tgt := 22) (pc1 := 19) (pc := 16) k_M_pour_16 rfl rfl (by decide) ?_
              | refine T_if_ge (tgt := 22) (pc1 := 19) (pc := 16) k_M_pour_16 rfl rfl (fun hc => ?_) (fun hc => ?_)
              | refine T_ldc (v := (-1000000011)) (pc1 := 21) (pc := 19) k_M_pour_19 rfl c_M_196 ?_
              | refine T_retI (pc := 21) k_M_pour_21 rfl (by first | rfl | decide | assumption) ?_
              | refine T_iconst (v := (nI 0)) (pc1 := 23) (pc := 22) k_M_pour_22 rfl (by decide) ?_
              | refine T_istore_n (pc1 := 24) (pc := 23) k_M_pour_23 rfl (Nat.le_of_ble_eq_true rfl) ?_
              | refine T_iconst (v := (nI 0)) (pc1 := 25) (pc := 24) k_M_pour_24 rfl (by decide) ?_
              | refine T_istore_n (pc1 := 26) (pc := 25) k_M_pour_25 rfl (Nat.le_of_ble_eq_true rfl) ?_
              | refine T_aload_n (pc1 := 28) (pc := 27) k_M_pour_27 rfl rfl ?_
              | refine T_aload_nN (pc1 := 28) (pc := 27) k_M_pour_27 rfl rfl ?_
              | refine T_getR (pc1 := 31) (pc := 28) k_M_pour_28 rfl f_M_9 rfl (by first | exact ga G (by decide) rfl | assumption) (by first | exact gr G (by decide) rfl | assumption) ?_
              | refine T_iconst (v := (nI 5)) (pc1 := 32) (pc := 31) k_M_pour_31 rfl (by decide) ?_
              | refine T_ialdN (pc1 := 33) (pc := 32) k_M_pour_32 rfl (by first | exact ga G (by decide) rfl | assumption) (by omega) (by omega) (by first | assumption | (simp (disch := omega) only [pI_eq, pI_row, pI_col, va_up_self, va_up_ne, ne_eq, not_false_eq_true, hSo, h1] <;> rfl) | rfl) ?_
              | refine T_iald (pc1 := 33) (pc := 32) k_M_pour_32 rfl (by first | exact ga G (by decide) rfl | assumption) (by assumption) ?_
              | (with_reducible refine T_icmp_geN (tgt := 120) (pc1 := 36) (pc := 33) k_M_pour_33 (by decide) (by decide) (by omega) (by omega) (fun hc => ?_) (fun hc => ?_) <;> first | (exfalso; omega) | skip)
              | refine T_icmp_ge_t (tgt := 120) (pc := 33) k_M_pour_33 rfl (by decide) ?_
              | refine T_icmp_ge_f (tgt := 120) (pc1 := 36) (pc := 33) k_M_pour_33 rfl rfl (by decide) ?_
              | refine T_icmp_ge (tgt := 120) (pc1 := 36) (pc := 33) k_M_pour_33 rfl rfl (fun hc => ?_) (fun hc => ?_)
              | refine T_iload_n (pc1 := 37) (pc := 36) k_M_pour_36 rfl rfl ?_
              | refine T_aload_n (pc1 := 38) (pc := 37) k_M_pour_37 rfl rfl ?_
              | refine T_aload_nN (pc1 := 38) (pc := 37) k_M_pour_37 rfl rfl ?_
              | refine T_getR (pc1 := 41) (pc := 38) k_M_pour_38 rfl f_M_64 rfl (by first | exact ga G (by decide) rfl | assumption) (by first | exact gr G (by decide) rfl | assumption) ?_
              | refine T_iload_n (pc1 := 42) (pc := 41) k_M_pour_41 rfl rfl ?_
              | refine T_ialdN (pc1 := 43) (pc := 42) k_M_pour_42 rfl (by first | exact ga G (by decide) rfl | assumption) (by omega) (by omega) (by first | assumption | (simp (disch := omega) only [pI_eq, pI_row, pI_col, va_up_self, va_up_ne, ne_eq, not_false_eq_true, hSo, h1] <;> rfl) | rfl) ?_
              | refine T_iald (pc1 := 43) (pc := 42) k_M_pour_42 rfl (by first | exact ga G (by decide) rfl | assumption) (by assumption) ?_
              | (with_reducible refine T_icmp_geN (tgt := 120) (pc1 := 46) (pc := 43) k_M_pour_43 (by decide) (by decide) (by omega) (by omega) (fun hc => ?_) (fun hc => ?_) <;> first | (exfalso; omega) | skip)
              | refine T_icmp_ge_t (tgt := 120) (pc := 43) k_M_pour_43 rfl (by decide) ?_
              | refine T_icmp_ge_f (tgt := 120) (pc1 := 46) (pc := 43) k_M_pour_43 rfl rfl (by decide) ?_
              | refine T_icmp_ge (tgt := 120) (pc1 := 46) (pc := 43) k_M_pour_43 rfl rfl (fun hc => ?_) (fun hc => ?_)
              | refine T_aload_n (pc1 := 47) (pc := 46) k_M_pour_46 rfl rfl ?_
              | refine T_aload_nN (pc1 := 47) (pc := 46) k_M_pour_46 rfl rfl ?_
              | refine T_getR (pc1 := 50) (pc := 47) k_M_pour_47 rfl f_M_67 rfl (by first | exact ga G (by decide) rfl | assumption) (by first | exact gr G (by decide) rfl | assumption) ?_
              | refine T_bipush (v := (nI 24)) (pc1 := 52) (pc := 50) k_M_pour_50 rfl (by decide) ?_
              | refine T_iload_n (pc1 := 53) (pc := 52) k_M_pour_52 rfl rfl ?_
              | with_reducible refine T_imulN (pc1 := 54) (pc := 53) k_M_pour_53 (by decide) ?_
              | refine T_imul (pc1 := 54) (pc := 53) k_M_pour_53 rfl ?_
              | refine T_iload_n (pc1 := 55) (pc := 54) k_M_pour_54 rfl rfl ?_
              | with_reducible refine T_iaddN (pc1 := 56) (pc := 55) k_M_pour_55 (by decide) ?_
              | refine T_iadd (pc1 := 56) (pc := 55) k_M_pour_55 rfl ?_
              | refine T_ialdN (pc1 := 57) (pc := 56) k_M_pour_56 rfl (by first | exact ga G (by decide) rfl | assumption) (by omega) (by omega) (by first | assumption | (simp (disch := omega) only [pI_eq, pI_row, pI_col, va_up_self, va_up_ne, ne_eq, not_false_eq_true, hSo, h1] <;> rfl) | rfl) ?_
              | refine T_iald (pc1 := 57) (pc := 56) k_M_pour_56 rfl (by first | exact ga G (by decide) rfl | assumption) (by assumption) ?_
              | refine T_istore (pc1 := 59) (pc := 57) k_M_pour_57 rfl (Nat.le_of_ble_eq_true rfl) ?_
              | refine T_iload (pc1 := 61) (pc := 59) k_M_pour_59 rfl rfl ?_
              | refine T_ldc (v := (-1000000005)) (pc1 := 63) (pc := 61) k_M_pour_61 rfl c_M_103 ?_
              | (with_reducible refine T_icmp_neN (tgt := 75) (pc1 := 66) (pc := 63) k_M_pour_63 (by decide) (by decide) (by omega) (by omega) (fun hc => ?_) (fun hc => ?_) <;> first | (exfalso; omega) | skip)
              | refine T_icmp_ne_t (tgt := 75) (pc := 63) k_M_pour_63 rfl (by decide) ?_
              | refine T_icmp_ne_f (tgt := 75) (pc1 := 66) (pc := 63) k_M_pour_63 rfl rfl (by decide) ?_
              | refine T_icmp_ne (tgt := 75) (pc1 := 66) (pc := 63) k_M_pour_63 rfl rfl (fun hc => ?_) (fun hc => ?_)
              | refine T_aload_n (pc1 := 67) (pc := 66) k_M_pour_66 rfl rfl ?_
              | refine T_aload_nN (pc1 := 67) (pc := 66) k_M_pour_66 rfl rfl ?_
              | refine T_iload_n (pc1 := 68) (pc := 67) k_M_pour_67 rfl rfl ?_
              | refine T_iconst (v := (nI 5)) (pc1 := 69) (pc := 68) k_M_pour_68 rfl (by decide) ?_
              | (refine T_cV (As := [_, _]) (d1 := 1) (pc1 := 72) (pc := 69) k_M_pour_69 rfl (by decide) (Nat.le_of_ble_eq_true rfl) rfl o_M_bitIs l_M_124 rfl (by first | exact ga G (by decide) rfl | assumption) rfl (c_M_bitN G (by assumption) (by omega) (by omega) (by first | assumption | rfl) ?_) <;> try dsimp only [psh])
              | refine T_goto (tgt := 84) (pc := 72) k_M_pour_72 rfl ?_
              | refine T_iload (pc1 := 77) (pc := 75) k_M_pour_75 rfl rfl ?_
              | refine T_iconst (v := (nI 0)) (pc1 := 78) (pc := 77) k_M_pour_77 rfl (by decide) ?_
              | refine T_sipush (v := (nI 999)) (pc1 := 81) (pc := 78) k_M_pour_78 rfl (by decide) ?_
              | (refine T_cS (As := [_, _, _]) (d1 := 1) (pc1 := 84) (pc := 81) k_M_pour_81 rfl (by decide) (Nat.le_of_ble_eq_true rfl) rfl o_M_between l_M_130 rfl (c_M_between ?_) <;> try dsimp only [psh])
              | refine T_istore (pc1 := 86) (pc := 84) k_M_pour_84 rfl (Nat.le_of_ble_eq_true rfl) ?_
              | refine T_iload_n (pc1 := 87) (pc := 86) k_M_pour_86 rfl rfl ?_
              | refine T_aload_n (pc1 := 88) (pc := 87) k_M_pour_87 rfl rfl ?_
              | refine T_aload_nN (pc1 := 88) (pc := 87) k_M_pour_87 rfl rfl ?_
              | refine T_bipush (v := (nI 12)) (pc1 := 90) (pc := 88) k_M_pour_88 rfl (by decide) ?_
              | refine T_bipush (v := (nI 6)) (pc1 := 92) (pc := 90) k_M_pour_90 rfl (by decide) ?_
              | refine T_iload_n (pc1 := 93) (pc := 92) k_M_pour_92 rfl rfl ?_
              | with_reducible refine T_imulN (pc1 := 94) (pc := 93) k_M_pour_93 (by decide) ?_
              | refine T_imul (pc1 := 94) (pc := 93) k_M_pour_93 rfl ?_
              | with_reducible refine T_iaddN (pc1 := 95) (pc := 94) k_M_pour_94 (by decide) ?_
              | refine T_iadd (pc1 := 95) (pc := 94) k_M_pour_94 rfl ?_
              | refine T_iconst (v := (nI 5)) (pc1 := 96) (pc := 95) k_M_pour_95 rfl (by decide) ?_
              | with_reducible refine T_iaddN (pc1 := 97) (pc := 96) k_M_pour_96 (by decide) ?_
              | refine T_iadd (pc1 := 97) (pc := 96) k_M_pour_96 rfl ?_
              | refine T_iload (pc1 := 99) (pc := 97) k_M_pour_97 rfl rfl ?_
              | (refine T_cV (As := [_, _]) (d1 := 1) (pc1 := 102) (pc := 99) k_M_pour_99 rfl (by decide) (Nat.le_of_ble_eq_true rfl) rfl o_M_become l_M_156 rfl (by first | exact ga G (by decide) rfl | assumption) rfl (c_M_become G (by omega) ?_) <;> try dsimp only [psh])
              | (with_reducible refine T_icmp_neN (tgt := 111) (pc1 := 107) (pc := 104) k_M_pour_104 (by decide) (by decide) (by omega) (by omega) (fun hc => ?_) (fun hc => ?_) <;> first | (exfalso; omega) | skip)
              | refine T_icmp_ne_t (tgt := 111) (pc := 104) k_M_pour_104 rfl (by decide) ?_
              | refine T_icmp_ne_f (tgt := 111) (pc1 := 107) (pc := 104) k_M_pour_104 rfl rfl (by decide) ?_
              | refine T_icmp_ne (tgt := 111) (pc1 := 107) (pc := 104) k_M_pour_104 rfl rfl (fun hc => ?_) (fun hc => ?_)
              | refine T_iconst (v := (nI 0)) (pc1 := 108) (pc := 107) k_M_pour_107 rfl (by decide) ?_
              | refine T_goto (tgt := 112) (pc := 108) k_M_pour_108 rfl ?_
              | refine T_iconst (v := (nI 1)) (pc1 := 112) (pc := 111) k_M_pour_111 rfl (by decide) ?_
              | with_reducible refine T_iaddN (pc1 := 113) (pc := 112) k_M_pour_112 (by decide) ?_
              | refine T_iadd (pc1 := 113) (pc := 112) k_M_pour_112 rfl ?_
              | refine T_istore_n (pc1 := 114) (pc := 113) k_M_pour_113 rfl (Nat.le_of_ble_eq_true rfl) ?_
              | refine T_iincN (b := 1) (pc1 := 117) (pc := 114) k_M_pour_114 rfl rfl (by decide) ?_
              | refine T_iinc (v := (nI 1)) (pc1 := 117) (pc := 114) k_M_pour_114 rfl rfl (by decide) ?_
              | refine T_goto (tgt := 26) (pc := 117) k_M_pour_117 rfl ?_
              | refine T_iload_n (pc1 := 121) (pc := 120) k_M_pour_120 rfl rfl ?_
              | refine T_retI (pc := 121) k_M_pour_121 rfl (by first | rfl | decide | assumption) ?_)
            rw [eb]
            repeat' (first
              | refine T_iload_n (pc1 := 1) (pc := 0) k_M_pour_0 rfl rfl ?_
              | (refine T_cS (As := [_]) (d1 := 2) (pc1 := 4) (pc := 1) k_M_pour_1 rfl (by decide) (Nat.le_of_ble_eq_true rfl) rfl o_M_isSheet l_M_193 rfl (c_M_isSheet (fun hw => ?_) (fun hw => ?_)) <;> try dsimp only [psh])
              | (with_reducible refine T_if_neN (tgt := 10) (pc1 := 7) (pc := 4) k_M_pour_4 (by decide) (by decide) (by omega) (fun hc => ?_) (fun hc => ?_) <;> first | (exfalso; omega) | skip)
              | refine T_if_ne_t (tgt := 10) (pc := 4) k_M_pour_4 rfl (by decide) ?_
              | refine T_if_ne_f (tgt := 10) (pc1 := 7) (pc := 4) k_M_pour_4 rfl rfl (by decide) ?_
              | refine T_if_ne (tgt := 10) (pc1 := 7) (pc := 4) k_M_pour_4 rfl rfl (fun hc => ?_) (fun hc => ?_)
              | refine T_ldc (v := (-1000000001)) (pc1 := 9) (pc := 7) k_M_pour_7 rfl c_M_111 ?_
              | refine T_retI (pc := 9) k_M_pour_9 rfl (by first | rfl | decide | assumption) ?_
              | refine T_aload_n (pc1 := 11) (pc := 10) k_M_pour_10 rfl rfl ?_
              | refine T_aload_nN (pc1 := 11) (pc := 10) k_M_pour_10 rfl rfl ?_
              | refine T_getR (pc1 := 14) (pc := 11) k_M_pour_11 rfl f_M_61 rfl (by first | exact ga G (by decide) rfl | assumption) (by first | exact gr G (by decide) rfl | assumption) ?_
              | refine T_iload_n (pc1 := 15) (pc := 14) k_M_pour_14 rfl rfl ?_
              | refine T_ialdN (pc1 := 16) (pc := 15) k_M_pour_15 rfl (by first | exact ga G (by decide) rfl | assumption) (by omega) (by omega) (by first | assumption | (simp (disch := omega) only [pI_eq, pI_row, pI_col, va_up_self, va_up_ne, ne_eq, not_false_eq_true, hSo, h1] <;> rfl) | rfl) ?_
              | refine T_iald (pc1 := 16) (pc := 15) k_M_pour_15 rfl (by first | exact ga G (by decide) rfl | assumption) (by assumption) ?_
              | (with_reducible refine T_if_geN (tgt := 22) (pc1 := 19) (pc := 16) k_M_pour_16 (by decide) (by decide) (by omega) ?_ <;> first | (exfalso; omega) | skip)
              | refine T_if_ge_t (tgt := 22) (pc := 16) k_M_pour_16 rfl (by decide) ?_
              | refine T_if_ge_f (tgt := 22) (pc1 := 19) (pc := 16) k_M_pour_16 rfl rfl (by decide) ?_
              | refine T_if_ge (tgt := 22) (pc1 := 19) (pc := 16) k_M_pour_16 rfl rfl (fun hc => ?_) (fun hc => ?_)
              | refine T_ldc (v := (-1000000011)) (pc1 := 21) (pc := 19) k_M_pour_19 rfl c_M_196 ?_
              | refine T_retI (pc := 21) k_M_pour_21 rfl (by first | rfl | decide | assumption) ?_
              | refine T_iconst (v := (nI 0)) (pc1 := 23) (pc := 22) k_M_pour_22 rfl (by decide) ?_
              | refine T_istore_n (pc1 := 24) (pc := 23) k_M_pour_23 rfl (Nat.le_of_ble_eq_true rfl) ?_
              | refine T_iconst (v := (nI 0)) (pc1 := 25) (pc := 24) k_M_pour_24 rfl (by decide) ?_
              | refine T_istore_n (pc1 := 26) (pc := 25) k_M_pour_25 rfl (Nat.le_of_ble_eq_true rfl) ?_
              | refine T_aload_n (pc1 := 28) (pc := 27) k_M_pour_27 rfl rfl ?_
              | refine T_aload_nN (pc1 := 28) (pc := 27) k_M_pour_27 rfl rfl ?_
              | refine T_getR (pc1 := 31) (pc := 28) k_M_pour_28 rfl f_M_9 rfl (by first | exact ga G (by decide) rfl | assumption) (by first | exact gr G (by decide) rfl | assumption) ?_
              | refine T_iconst (v := (nI 5)) (pc1 := 32) (pc := 31) k_M_pour_31 rfl (by decide) ?_
              | refine T_ialdN (pc1 := 33) (pc := 32) k_M_pour_32 rfl (by first | exact ga G (by decide) rfl | assumption) (by omega) (by omega) (by first | assumption | (simp (disch := omega) only [pI_eq, pI_row, pI_col, va_up_self, va_up_ne, ne_eq, not_false_eq_true, hSo, h1] <;> rfl) | rfl) ?_
              | refine T_iald (pc1 := 33) (pc := 32) k_M_pour_32 rfl (by first | exact ga G (by decide) rfl | assumption) (by assumption) ?_
              | (with_reducible refine T_icmp_geN (tgt := 120) (pc1 := 36) (pc := 33) k_M_pour_33 (by decide) (by decide) (by omega) (by omega) (fun hc => ?_) (fun hc => ?_) <;> first | (exfalso; omega) | skip)
              | refine T_icmp_ge_t (tgt := 120) (pc := 33) k_M_pour_33 rfl (by decide) ?_
              | refine T_icmp_ge_f (tgt := 120) (pc1 := 36) (pc := 33) k_M_pour_33 rfl rfl (by decide) ?_
              | refine T_icmp_ge (tgt := 120) (pc1 := 36) (pc := 33) k_M_pour_33 rfl rfl (fun hc => ?_) (fun hc => ?_)
              | refine T_iload_n (pc1 := 37) (pc := 36) k_M_pour_36 rfl rfl ?_
              | refine T_aload_n (pc1 := 38) (pc := 37) k_M_pour_37 rfl rfl ?_
              | refine T_aload_nN (pc1 := 38) (pc := 37) k_M_pour_37 rfl rfl ?_
              | refine T_getR (pc1 := 41) (pc := 38) k_M_pour_38 rfl f_M_64 rfl (by first | exact ga G (by decide) rfl | assumption) (by first | exact gr G (by decide) rfl | assumption) ?_
              | refine T_iload_n (pc1 := 42) (pc := 41) k_M_pour_41 rfl rfl ?_
              | refine T_ialdN (pc1 := 43) (pc := 42) k_M_pour_42 rfl (by first | exact ga G (by decide) rfl | assumption) (by omega) (by omega) (by first | assumption | (simp (disch := omega) only [pI_eq, pI_row, pI_col, va_up_self, va_up_ne, ne_eq, not_false_eq_true, hSo, h1] <;> rfl) | rfl) ?_
              | refine T_iald (pc1 := 43) (pc := 42) k_M_pour_42 rfl (by first | exact ga G (by decide) rfl | assumption) (by assumption) ?_
              | (with_reducible refine T_icmp_geN (tgt := 120) (pc1 := 46) (pc := 43) k_M_pour_43 (by decide) (by decide) (by omega) (by omega) (fun hc => ?_) (fun hc => ?_) <;> first | (exfalso; omega) | skip)
              | refine T_icmp_ge_t (tgt := 120) (pc := 43) k_M_pour_43 rfl (by decide) ?_
              | refine T_icmp_ge_f (tgt := 120) (pc1 := 46) (pc := 43) k_M_pour_43 rfl rfl (by decide) ?_
              | refine T_icmp_ge (tgt := 120) (pc1 := 46) (pc := 43) k_M_pour_43 rfl rfl (fun hc => ?_) (fun hc => ?_)
              | refine T_aload_n (pc1 := 47) (pc := 46) k_M_pour_46 rfl rfl ?_
              | refine T_aload_nN (pc1 := 47) (pc := 46) k_M_pour_46 rfl rfl ?_
              | refine T_getR (pc1 := 50) (pc := 47) k_M_pour_47 rfl f_M_67 rfl (by first | exact ga G (by decide) rfl | assumption) (by first | exact gr G (by decide) rfl | assumption) ?_
              | refine T_bipush (v := (nI 24)) (pc1 := 52) (pc := 50) k_M_pour_50 rfl (by decide) ?_
              | refine T_iload_n (pc1 := 53) (pc := 52) k_M_pour_52 rfl rfl ?_
              | with_reducible refine T_imulN (pc1 := 54) (pc := 53) k_M_pour_53 (by decide) ?_
              | refine T_imul (pc1 := 54) (pc := 53) k_M_pour_53 rfl ?_
              | refine T_iload_n (pc1 := 55) (pc := 54) k_M_pour_54 rfl rfl ?_
              | with_reducible refine T_iaddN (pc1 := 56) (pc := 55) k_M_pour_55 (by decide) ?_
              | refine T_iadd (pc1 := 56) (pc := 55) k_M_pour_55 rfl ?_
              | refine T_ialdN (pc1 := 57) (pc := 56) k_M_pour_56 rfl (by first | exact ga G (by decide) rfl | assumption) (by omega) (by omega) (by first | assumption | (simp (disch := omega) only [pI_eq, pI_row, pI_col, va_up_self, va_up_ne, ne_eq, not_false_eq_true, hSo, h1] <;> rfl) | rfl) ?_
              | refine T_iald (pc1 := 57) (pc := 56) k_M_pour_56 rfl (by first | exact ga G (by decide) rfl | assumption) (by assumption) ?_
              | refine T_istore (pc1 := 59) (pc := 57) k_M_pour_57 rfl (Nat.le_of_ble_eq_true rfl) ?_
              | refine T_iload (pc1 := 61) (pc := 59) k_M_pour_59 rfl rfl ?_
              | refine T_ldc (v := (-1000000005)) (pc1 := 63) (pc := 61) k_M_pour_61 rfl c_M_103 ?_
              | (with_reducible refine T_icmp_neN (tgt := 75) (pc1 := 66) (pc := 63) k_M_pour_63 (by decide) (by decide) (by omega) (by omega) (fun hc => ?_) (fun hc => ?_) <;> first | (exfalso; omega) | skip)
              | refine T_icmp_ne_t (tgt := 75) (pc := 63) k_M_pour_63 rfl (by decide) ?_
              | refine T_icmp_ne_f (tgt := 75) (pc1 := 66) (pc := 63) k_M_pour_63 rfl rfl (by decide) ?_
              | refine T_icmp_ne (tgt := 75) (pc1 := 66) (pc := 63) k_M_pour_63 rfl rfl (fun hc => ?_) (fun hc => ?_)
              | refine T_aload_n (pc1 := 67) (pc := 66) k_M_pour_66 rfl rfl ?_
              | refine T_aload_nN (pc1 := 67) (pc := 66) k_M_pour_66 rfl rfl ?_
              | refine T_iload_n (pc1 := 68) (pc := 67) k_M_pour_67 rfl rfl ?_
              | refine T_iconst (v := (nI 5)) (pc1 := 69) (pc := 68) k_M_pour_68 rfl (by decide) ?_
              | (refine T_cV (As := [_, _]) (d1 := 1) (pc1 := 72) (pc := 69) k_M_pour_69 rfl (by decide) (Nat.le_of_ble_eq_true rfl) rfl o_M_bitIs l_M_124 rfl (by first | exact ga G (by decide) rfl | assumption) rfl (c_M_bitN G (by assumption) (by omega) (by omega) (by first | assumption | rfl) ?_) <;> try dsimp only [psh])
              | refine T_goto (tgt := 84) (pc := 72) k_M_pour_72 rfl ?_
              | refine T_iload (pc1 := 77) (pc := 75) k_M_pour_75 rfl rfl ?_
              | refine T_iconst (v := (nI 0)) (pc1 := 78) (pc := 77) k_M_pour_77 rfl (by decide) ?_
              | refine T_sipush (v := (nI 999)) (pc1 := 81) (pc := 78) k_M_pour_78 rfl (by decide) ?_
              | (refine T_cS (As := [_, _, _]) (d1 := 1) (pc1 := 84) (pc := 81) k_M_pour_81 rfl (by decide) (Nat.le_of_ble_eq_true rfl) rfl o_M_between l_M_130 rfl (c_M_between ?_) <;> try dsimp only [psh])
              | refine T_istore (pc1 := 86) (pc := 84) k_M_pour_84 rfl (Nat.le_of_ble_eq_true rfl) ?_
              | refine T_iload_n (pc1 := 87) (pc := 86) k_M_pour_86 rfl rfl ?_
              | refine T_aload_n (pc1 := 88) (pc := 87) k_M_pour_87 rfl rfl ?_
              | refine T_aload_nN (pc1 := 88) (pc := 87) k_M_pour_87 rfl rfl ?_
              | refine T_bipush (v := (nI 12)) (pc1 := 90) (pc := 88) k_M_pour_88 rfl (by decide) ?_
              | refine T_bipush (v := (nI 6)) (pc1 := 92) (pc := 90) k_M_pour_90 rfl (by decide) ?_
              | refine T_iload_n (pc1 := 93) (pc := 92) k_M_pour_92 rfl rfl ?_
              | with_reducible refine T_imulN (pc1 := 94) (pc := 93) k_M_pour_93 (by decide) ?_
              | refine T_imul (pc1 := 94) (pc := 93) k_M_pour_93 rfl ?_
              | with_reducible refine T_iaddN (pc1 := 95) (pc := 94) k_M_pour_94 (by decide) ?_
              | refine T_iadd (pc1 := 95) (pc := 94) k_M_pour_94 rfl ?_
              | refine T_iconst (v := (nI 5)) (pc1 := 96) (pc := 95) k_M_pour_95 rfl (by decide) ?_
              | with_reducible refine T_iaddN (pc1 := 97) (pc := 96) k_M_pour_96 (by decide) ?_
              | refine T_iadd (pc1 := 97) (pc := 96) k_M_pour_96 rfl ?_
              | refine T_iload (pc1 := 99) (pc := 97) k_M_pour_97 rfl rfl ?_
              | (refine T_cV (As := [_, _]) (d1 := 1) (pc1 := 102) (pc := 99) k_M_pour_99 rfl (by decide) (Nat.le_of_ble_eq_true rfl) rfl o_M_become l_M_156 rfl (by first | exact ga G (by decide) rfl | assumption) rfl (c_M_become G (by omega) ?_) <;> try dsimp only [psh])
              | refine T_iload (pc1 := 104) (pc := 102) k_M_pour_102 rfl rfl ?_
              | (with_reducible refine T_icmp_neN (tgt := 111) (pc1 := 107) (pc := 104) k_M_pour_104 (by decide) (by decide) (by omega) (by omega) (fun hc => ?_) (fun hc => ?_) <;> first | (exfalso; omega) | skip)
              | refine T_icmp_ne_t (tgt := 111) (pc := 104) k_M_pour_104 rfl (by decide) ?_
              | refine T_icmp_ne_f (tgt := 111) (pc1 := 107) (pc := 104) k_M_pour_104 rfl rfl (by decide) ?_
              | refine T_icmp_ne (tgt := 111) (pc1 := 107) (pc := 104) k_M_pour_104 rfl rfl (fun hc => ?_) (fun hc => ?_)
              | refine T_iconst (v := (nI 0)) (pc1 := 108) (pc := 107) k_M_pour_107 rfl (by decide) ?_
              | refine T_goto (tgt := 112) (pc := 108) k_M_pour_108 rfl ?_
              | refine T_iconst (v := (nI 1)) (pc1 := 112) (pc := 111) k_M_pour_111 rfl (by decide) ?_
              | with_reducible refine T_iaddN (pc1 := 113) (pc := 112) k_M_pour_112 (by decide) ?_
              | refine T_iadd (pc1 := 113) (pc := 112) k_M_pour_112 rfl ?_
              | refine T_istore_n (pc1 := 114) (pc := 113) k_M_pour_113 rfl (Nat.le_of_ble_eq_true rfl) ?_
              | refine T_iincN (b := 1) (pc1 := 117) (pc := 114) k_M_pour_114 rfl rfl (by decide) ?_
              | refine T_iinc (v := (nI 1)) (pc1 := 117) (pc := 114) k_M_pour_114 rfl rfl (by decide) ?_
              | refine T_goto (tgt := 26) (pc := 117) k_M_pour_117 rfl ?_
              | refine T_iload_n (pc1 := 121) (pc := 120) k_M_pour_120 rfl rfl ?_
              | refine T_retI (pc := 121) k_M_pour_121 rfl (by first | rfl | decide | assumption) ?_)
            · rw [if_neg (by assumption)] at ih
              exact ih
            · rw [if_pos (Decidable.not_not.mp (by assumption))] at ih
              exact ih
          refine T_iload_n (pc1 := 27) (pc := 26) k_M_pour_26 rfl rfl ?_
          repeat' (first
            | refine T_iload_n (pc1 := 1) (pc := 0) k_M_pour_0 rfl rfl ?_
            | (refine T_cS (As := [_]) (d1 := 2) (pc1 := 4) (pc := 1) k_M_pour_1 rfl (by decide) (Nat.le_of_ble_eq_true rfl) rfl o_M_isSheet l_M_193 rfl (c_M_isSheet (fun hw => ?_) (fun hw => ?_)) <;> try dsimp only [psh])
            | (with_reducible refine T_if_neN (tgt := 10) (pc1 := 7) (pc := 4) k_M_pour_4 (by decide) (by decide) (by omega) (fun hc => ?_) (fun hc => ?_) <;> first | (exfalso; omega) | skip)
            | refine T_if_ne_t (tgt := 10) (pc := 4) k_M_pour_4 rfl (by decide) ?_
            | refine T_if_ne_f (tgt := 10) (pc1 := 7) (pc := 4) k_M_pour_4 rfl rfl (by decide) ?_
            | refine T_if_ne (tgt := 10) (pc1 := 7) (pc := 4) k_M_pour_4 rfl rfl (fun hc => ?_) (fun hc => ?_)
            | refine T_ldc (v := (-1000000001)) (pc1 := 9) (pc := 7) k_M_pour_7 rfl c_M_111 ?_
            | refine T_retI (pc := 9) k_M_pour_9 rfl (by first | rfl | decide | assumption) ?_
            | refine T_aload_n (pc1 := 11) (pc := 10) k_M_pour_10 rfl rfl ?_
            | refine T_aload_nN (pc1 := 11) (pc := 10) k_M_pour_10 rfl rfl ?_
            | refine T_getR (pc1 := 14) (pc := 11) k_M_pour_11 rfl f_M_61 rfl (by first | exact ga G (by decide) rfl | assumption) (by first | exact gr G (by decide) rfl | assumption) ?_
            | refine T_iload_n (pc1 := 15) (pc := 14) k_M_pour_14 rfl rfl ?_
            | refine T_ialdN (pc1 := 16) (pc := 15) k_M_pour_15 rfl (by first | exact ga G (by decide) rfl | assumption) (by omega) (by omega) (by first | assumption | (simp (disch := omega) only [pI_eq, pI_row, pI_col, va_up_self, va_up_ne, ne_eq, not_false_eq_true, hSo, h1] <;> rfl) | rfl) ?_
            | refine T_iald (pc1 := 16) (pc := 15) k_M_pour_15 rfl (by first | exact ga G (by decide) rfl | assumption) (by assumption) ?_
            | (with_reducible refine T_if_geN (tgt := 22) (pc1 := 19) (pc := 16) k_M_pour_16 (by decide) (by decide) (by omega) ?_ <;> first | (exfalso; omega) | skip)
            | refine T_if_ge_t (tgt := 22) (pc := 16) k_M_pour_16 rfl (by decide) ?_
            | refine T_if_ge_f (tgt := 22) (pc1 := 19) (pc := 16) k_M_pour_16 rfl rfl (by decide) ?_
            | refine T_if_ge (tgt := 22) (pc1 := 19) (pc := 16) k_M_pour_16 rfl rfl (fun hc => ?_) (fun hc => ?_)
            | refine T_ldc (v := (-1000000011)) (pc1 := 21) (pc := 19) k_M_pour_19 rfl c_M_196 ?_
            | refine T_retI (pc := 21) k_M_pour_21 rfl (by first | rfl | decide | assumption) ?_
            | refine T_iconst (v := (nI 0)) (pc1 := 23) (pc := 22) k_M_pour_22 rfl (by decide) ?_
            | refine T_istore_n (pc1 := 24) (pc := 23) k_M_pour_23 rfl (Nat.le_of_ble_eq_true rfl) ?_
            | refine T_iconst (v := (nI 0)) (pc1 := 25) (pc := 24) k_M_pour_24 rfl (by decide) ?_
            | refine T_istore_n (pc1 := 26) (pc := 25) k_M_pour_25 rfl (Nat.le_of_ble_eq_true rfl) ?_
            | refine T_aload_n (pc1 := 28) (pc := 27) k_M_pour_27 rfl rfl ?_
            | refine T_aload_nN (pc1 := 28) (pc := 27) k_M_pour_27 rfl rfl ?_
            | refine T_getR (pc1 := 31) (pc := 28) k_M_pour_28 rfl f_M_9 rfl (by first | exact ga G (by decide) rfl | assumption) (by first | exact gr G (by decide) rfl | assumption) ?_
            | refine T_iconst (v := (nI 5)) (pc1 := 32) (pc := 31) k_M_pour_31 rfl (by decide) ?_
            | refine T_ialdN (pc1 := 33) (pc := 32) k_M_pour_32 rfl (by first | exact ga G (by decide) rfl | assumption) (by omega) (by omega) (by first | assumption | (simp (disch := omega) only [pI_eq, pI_row, pI_col, va_up_self, va_up_ne, ne_eq, not_false_eq_true, hSo, h1] <;> rfl) | rfl) ?_
            | refine T_iald (pc1 := 33) (pc := 32) k_M_pour_32 rfl (by first | exact ga G (by decide) rfl | assumption) (by assumption) ?_
            | (with_reducible refine T_icmp_geN (tgt := 120) (pc1 := 36) (pc := 33) k_M_pour_33 (by decide) (by decide) (by omega) (by omega) (fun hc => ?_) (fun hc => ?_) <;> first | (exfalso; omega) | skip)
            | refine T_icmp_ge_t (tgt := 120) (pc := 33) k_M_pour_33 rfl (by decide) ?_
            | refine T_icmp_ge_f (tgt := 120) (pc1 := 36) (pc := 33) k_M_pour_33 rfl rfl (by decide) ?_
            | refine T_icmp_ge (tgt := 120) (pc1 := 36) (pc := 33) k_M_pour_33 rfl rfl (fun hc => ?_) (fun hc => ?_)
            | refine T_iload_n (pc1 := 37) (pc := 36) k_M_pour_36 rfl rfl ?_
            | refine T_aload_n (pc1 := 38) (pc := 37) k_M_pour_37 rfl rfl ?_
            | refine T_aload_nN (pc1 := 38) (pc := 37) k_M_pour_37 rfl rfl ?_
            | refine T_getR (pc1 := 41) (pc := 38) k_M_pour_38 rfl f_M_64 rfl (by first | exact ga G (by decide) rfl | assumption) (by first | exact gr G (by decide) rfl | assumption) ?_
            | refine T_iload_n (pc1 := 42) (pc := 41) k_M_pour_41 rfl rfl ?_
            | refine T_ialdN (pc1 := 43) (pc := 42) k_M_pour_42 rfl (by first | exact ga G (by decide) rfl | assumption) (by omega) (by omega) (by first | assumption | (simp (disch := omega) only [pI_eq, pI_row, pI_col, va_up_self, va_up_ne, ne_eq, not_false_eq_true, hSo, h1] <;> rfl) | rfl) ?_
            | refine T_iald (pc1 := 43) (pc := 42) k_M_pour_42 rfl (by first | exact ga G (by decide) rfl | assumption) (by assumption) ?_
            | (with_reducible refine T_icmp_geN (tgt := 120) (pc1 := 46) (pc := 43) k_M_pour_43 (by decide) (by decide) (by omega) (by omega) (fun hc => ?_) (fun hc => ?_) <;> first | (exfalso; omega) | skip)
            | refine T_icmp_ge_t (tgt := 120) (pc := 43) k_M_pour_43 rfl (by decide) ?_
            | refine T_icmp_ge_f (tgt := 120) (pc1 := 46) (pc := 43) k_M_pour_43 rfl rfl (by decide) ?_
            | refine T_icmp_ge (tgt := 120) (pc1 := 46) (pc := 43) k_M_pour_43 rfl rfl (fun hc => ?_) (fun hc => ?_)
            | refine T_aload_n (pc1 := 47) (pc := 46) k_M_pour_46 rfl rfl ?_
            | refine T_aload_nN (pc1 := 47) (pc := 46) k_M_pour_46 rfl rfl ?_
            | refine T_getR (pc1 := 50) (pc := 47) k_M_pour_47 rfl f_M_67 rfl (by first | exact ga G (by decide) rfl | assumption) (by first | exact gr G (by decide) rfl | assumption) ?_
            | refine T_bipush (v := (nI 24)) (pc1 := 52) (pc := 50) k_M_pour_50 rfl (by decide) ?_
            | refine T_iload_n (pc1 := 53) (pc := 52) k_M_pour_52 rfl rfl ?_
            | with_reducible refine T_imulN (pc1 := 54) (pc := 53) k_M_pour_53 (by decide) ?_
            | refine T_imul (pc1 := 54) (pc := 53) k_M_pour_53 rfl ?_
            | refine T_iload_n (pc1 := 55) (pc := 54) k_M_pour_54 rfl rfl ?_
            | with_reducible refine T_iaddN (pc1 := 56) (pc := 55) k_M_pour_55 (by decide) ?_
            | refine T_iadd (pc1 := 56) (pc := 55) k_M_pour_55 rfl ?_
            | refine T_ialdN (pc1 := 57) (pc := 56) k_M_pour_56 rfl (by first | exact ga G (by decide) rfl | assumption) (by omega) (by omega) (by first | assumption | (simp (disch := omega) only [pI_eq, pI_row, pI_col, va_up_self, va_up_ne, ne_eq, not_false_eq_true, hSo, h1] <;> rfl) | rfl) ?_
            | refine T_iald (pc1 := 57) (pc := 56) k_M_pour_56 rfl (by first | exact ga G (by decide) rfl | assumption) (by assumption) ?_
            | refine T_istore (pc1 := 59) (pc := 57) k_M_pour_57 rfl (Nat.le_of_ble_eq_true rfl) ?_
            | refine T_iload (pc1 := 61) (pc := 59) k_M_pour_59 rfl rfl ?_
            | refine T_ldc (v := (-1000000005)) (pc1 := 63) (pc := 61) k_M_pour_61 rfl c_M_103 ?_
            | (with_reducible refine T_icmp_neN (tgt := 75) (pc1 := 66) (pc := 63) k_M_pour_63 (by decide) (by decide) (by omega) (by omega) (fun hc => ?_) (fun hc => ?_) <;> first | (exfalso; omega) | skip)
            | refine T_icmp_ne_t (tgt := 75) (pc := 63) k_M_pour_63 rfl (by decide) ?_
            | refine T_icmp_ne_f (tgt := 75) (pc1 := 66) (pc := 63) k_M_pour_63 rfl rfl (by decide) ?_
            | refine T_icmp_ne (tgt := 75) (pc1 := 66) (pc := 63) k_M_pour_63 rfl rfl (fun hc => ?_) (fun hc => ?_)
            | refine T_aload_n (pc1 := 67) (pc := 66) k_M_pour_66 rfl rfl ?_
            | refine T_aload_nN (pc1 := 67) (pc := 66) k_M_pour_66 rfl rfl ?_
            | refine T_iload_n (pc1 := 68) (pc := 67) k_M_pour_67 rfl rfl ?_
            | refine T_iconst (v := (nI 5)) (pc1 := 69) (pc := 68) k_M_pour_68 rfl (by decide) ?_
            | (refine T_cV (As := [_, _]) (d1 := 1) (pc1 := 72) (pc := 69) k_M_pour_69 rfl (by decide) (Nat.le_of_ble_eq_true rfl) rfl o_M_bitIs l_M_124 rfl (by first | exact ga G (by decide) rfl | assumption) rfl (c_M_bitIs G (by omega) (by omega) eb ?_) <;> try dsimp only [psh])
            | refine T_goto (tgt := 84) (pc := 72) k_M_pour_72 rfl ?_
            | refine T_iload (pc1 := 77) (pc := 75) k_M_pour_75 rfl rfl ?_
            | refine T_iconst (v := (nI 0)) (pc1 := 78) (pc := 77) k_M_pour_77 rfl (by decide) ?_
            | refine T_sipush (v := (nI 999)) (pc1 := 81) (pc := 78) k_M_pour_78 rfl (by decide) ?_
            | (refine T_cS (As := [_, _, _]) (d1 := 1) (pc1 := 84) (pc := 81) k_M_pour_81 rfl (by decide) (Nat.le_of_ble_eq_true rfl) rfl o_M_between l_M_130 rfl (c_M_between ?_) <;> try dsimp only [psh])
            | refine T_iload_n (pc1 := 87) (pc := 86) k_M_pour_86 rfl rfl ?_
            | refine T_aload_n (pc1 := 88) (pc := 87) k_M_pour_87 rfl rfl ?_
            | refine T_aload_nN (pc1 := 88) (pc := 87) k_M_pour_87 rfl rfl ?_
            | refine T_bipush (v := (nI 12)) (pc1 := 90) (pc := 88) k_M_pour_88 rfl (by decide) ?_
            | refine T_bipush (v := (nI 6)) (pc1 := 92) (pc := 90) k_M_pour_90 rfl (by decide) ?_
            | refine T_iload_n (pc1 := 93) (pc := 92) k_M_pour_92 rfl rfl ?_
            | with_reducible refine T_imulN (pc1 := 94) (pc := 93) k_M_pour_93 (by decide) ?_
            | refine T_imul (pc1 := 94) (pc := 93) k_M_pour_93 rfl ?_
            | with_reducible refine T_iaddN (pc1 := 95) (pc := 94) k_M_pour_94 (by decide) ?_
            | refine T_iadd (pc1 := 95) (pc := 94) k_M_pour_94 rfl ?_
            | refine T_iconst (v := (nI 5)) (pc1 := 96) (pc := 95) k_M_pour_95 rfl (by decide) ?_
            | with_reducible refine T_iaddN (pc1 := 97) (pc := 96) k_M_pour_96 (by decide) ?_
            | refine T_iadd (pc1 := 97) (pc := 96) k_M_pour_96 rfl ?_
            | refine T_iload (pc1 := 99) (pc := 97) k_M_pour_97 rfl rfl ?_
            | (refine T_cV (As := [_, _]) (d1 := 1) (pc1 := 102) (pc := 99) k_M_pour_99 rfl (by decide) (Nat.le_of_ble_eq_true rfl) rfl o_M_become l_M_156 rfl (by first | exact ga G (by decide) rfl | assumption) rfl (c_M_become G (by omega) ?_) <;> try dsimp only [psh])
            | refine T_iload (pc1 := 104) (pc := 102) k_M_pour_102 rfl rfl ?_
            | (with_reducible refine T_icmp_neN (tgt := 111) (pc1 := 107) (pc := 104) k_M_pour_104 (by decide) (by decide) (by omega) (by omega) (fun hc => ?_) (fun hc => ?_) <;> first | (exfalso; omega) | skip)
            | refine T_icmp_ne_t (tgt := 111) (pc := 104) k_M_pour_104 rfl (by decide) ?_
            | refine T_icmp_ne_f (tgt := 111) (pc1 := 107) (pc := 104) k_M_pour_104 rfl rfl (by decide) ?_
            | refine T_icmp_ne (tgt := 111) (pc1 := 107) (pc := 104) k_M_pour_104 rfl rfl (fun hc => ?_) (fun hc => ?_)
            | refine T_iconst (v := (nI 0)) (pc1 := 108) (pc := 107) k_M_pour_107 rfl (by decide) ?_
            | refine T_goto (tgt := 112) (pc := 108) k_M_pour_108 rfl ?_
            | refine T_iconst (v := (nI 1)) (pc1 := 112) (pc := 111) k_M_pour_111 rfl (by decide) ?_
            | with_reducible refine T_iaddN (pc1 := 113) (pc := 112) k_M_pour_112 (by decide) ?_
            | refine T_iadd (pc1 := 113) (pc := 112) k_M_pour_112 rfl ?_
            | refine T_istore_n (pc1 := 114) (pc := 113) k_M_pour_113 rfl (Nat.le_of_ble_eq_true rfl) ?_
            | refine T_iincN (b := 1) (pc1 := 117) (pc := 114) k_M_pour_114 rfl rfl (by decide) ?_
            | refine T_iinc (v := (nI 1)) (pc1 := 117) (pc := 114) k_M_pour_114 rfl rfl (by decide) ?_
            | refine T_goto (tgt := 26) (pc := 117) k_M_pour_117 rfl ?_
            | refine T_iload_n (pc1 := 121) (pc := 120) k_M_pour_120 rfl rfl ?_
            | refine T_retI (pc := 121) k_M_pour_121 rfl (by first | rfl | decide | assumption) ?_)
          · exact nx _ _ (by rw [prS, if_neg (by assumption)])
          · exact nx _ _ (by rw [prS, if_pos (Decidable.not_not.mp (by assumption))])
      rcases h1 with h1 | h1
      all_goals
        repeat' (first
          | refine T_iload_n (pc1 := 1) (pc := 0) k_M_pour_0 rfl rfl ?_
          | (refine T_cS (As := [_]) (d1 := 2) (pc1 := 4) (pc := 1) k_M_pour_1 rfl (by decide) (Nat.le_of_ble_eq_true rfl) rfl o_M_isSheet l_M_193 rfl (c_M_isSheet (fun hw => ?_) (fun hw => ?_)) <;> try dsimp only [psh])
          | (with_reducible refine T_if_neN (tgt := 10) (pc1 := 7) (pc := 4) k_M_pour_4 (by decide) (by decide) (by omega) (fun hc => ?_) (fun hc => ?_) <;> first | (exfalso; omega) | skip)
          | refine T_if_ne_t (tgt := 10) (pc := 4) k_M_pour_4 rfl (by decide) ?_
          | refine T_if_ne_f (tgt := 10) (pc1 := 7) (pc := 4) k_M_pour_4 rfl rfl (by decide) ?_
          | refine T_if_ne (tgt := 10) (pc1 := 7) (pc := 4) k_M_pour_4 rfl rfl (fun hc => ?_) (fun hc => ?_)
          | refine T_ldc (v := (-1000000001)) (pc1 := 9) (pc := 7) k_M_pour_7 rfl c_M_111 ?_
          | refine T_retI (pc := 9) k_M_pour_9 rfl (by first | rfl | decide | assumption) ?_
          | refine T_aload_n (pc1 := 11) (pc := 10) k_M_pour_10 rfl rfl ?_
          | refine T_aload_nN (pc1 := 11) (pc := 10) k_M_pour_10 rfl rfl ?_
          | refine T_getR (pc1 := 14) (pc := 11) k_M_pour_11 rfl f_M_61 rfl (by first | exact ga G (by decide) rfl | assumption) (by first | exact gr G (by decide) rfl | assumption) ?_
          | refine T_iload_n (pc1 := 15) (pc := 14) k_M_pour_14 rfl rfl ?_
          | refine T_ialdN (pc1 := 16) (pc := 15) k_M_pour_15 rfl (by first | exact ga G (by decide) rfl | assumption) (by omega) (by omega) (by first | assumption | (simp (disch := omega) only [pI_eq, pI_row, pI_col, va_up_self, va_up_ne, ne_eq, not_false_eq_true, hSo, h1] <;> rfl) | rfl) ?_
          | refine T_iald (pc1 := 16) (pc := 15) k_M_pour_15 rfl (by first | exact ga G (by decide) rfl | assumption) (by assumption) ?_
          | (with_reducible refine T_if_geN (tgt := 22) (pc1 := 19) (pc := 16) k_M_pour_16 (by decide) (by decide) (by omega) ?_ <;> first | (exfalso; omega) | skip)
          | refine T_if_ge_t (tgt := 22) (pc := 16) k_M_pour_16 rfl (by decide) ?_
          | refine T_if_ge_f (tgt := 22) (pc1 := 19) (pc := 16) k_M_pour_16 rfl rfl (by decide) ?_
          | refine T_if_ge (tgt := 22) (pc1 := 19) (pc := 16) k_M_pour_16 rfl rfl (fun hc => ?_) (fun hc => ?_)
          | refine T_ldc (v := (-1000000011)) (pc1 := 21) (pc := 19) k_M_pour_19 rfl c_M_196 ?_
          | refine T_retI (pc := 21) k_M_pour_21 rfl (by first | rfl | decide | assumption) ?_
          | refine T_iconst (v := (nI 0)) (pc1 := 23) (pc := 22) k_M_pour_22 rfl (by decide) ?_
          | refine T_istore_n (pc1 := 24) (pc := 23) k_M_pour_23 rfl (Nat.le_of_ble_eq_true rfl) ?_
          | refine T_iconst (v := (nI 0)) (pc1 := 25) (pc := 24) k_M_pour_24 rfl (by decide) ?_
          | refine T_istore_n (pc1 := 26) (pc := 25) k_M_pour_25 rfl (Nat.le_of_ble_eq_true rfl) ?_
          | refine T_aload_n (pc1 := 28) (pc := 27) k_M_pour_27 rfl rfl ?_
          | refine T_aload_nN (pc1 := 28) (pc := 27) k_M_pour_27 rfl rfl ?_
          | refine T_getR (pc1 := 31) (pc := 28) k_M_pour_28 rfl f_M_9 rfl (by first | exact ga G (by decide) rfl | assumption) (by first | exact gr G (by decide) rfl | assumption) ?_
          | refine T_iconst (v := (nI 5)) (pc1 := 32) (pc := 31) k_M_pour_31 rfl (by decide) ?_
          | refine T_ialdN (pc1 := 33) (pc := 32) k_M_pour_32 rfl (by first | exact ga G (by decide) rfl | assumption) (by omega) (by omega) (by first | assumption | (simp (disch := omega) only [pI_eq, pI_row, pI_col, va_up_self, va_up_ne, ne_eq, not_false_eq_true, hSo, h1] <;> rfl) | rfl) ?_
          | refine T_iald (pc1 := 33) (pc := 32) k_M_pour_32 rfl (by first | exact ga G (by decide) rfl | assumption) (by assumption) ?_
          | (with_reducible refine T_icmp_geN (tgt := 120) (pc1 := 36) (pc := 33) k_M_pour_33 (by decide) (by decide) (by omega) (by omega) (fun hc => ?_) (fun hc => ?_) <;> first | (exfalso; omega) | skip)
          | refine T_icmp_ge_t (tgt := 120) (pc := 33) k_M_pour_33 rfl (by decide) ?_
          | refine T_icmp_ge_f (tgt := 120) (pc1 := 36) (pc := 33) k_M_pour_33 rfl rfl (by decide) ?_
          | refine T_icmp_ge (tgt := 120) (pc1 := 36) (pc := 33) k_M_pour_33 rfl rfl (fun hc => ?_) (fun hc => ?_)
          | refine T_iload_n (pc1 := 37) (pc := 36) k_M_pour_36 rfl rfl ?_
          | refine T_aload_n (pc1 := 38) (pc := 37) k_M_pour_37 rfl rfl ?_
          | refine T_aload_nN (pc1 := 38) (pc := 37) k_M_pour_37 rfl rfl ?_
          | refine T_getR (pc1 := 41) (pc := 38) k_M_pour_38 rfl f_M_64 rfl (by first | exact ga G (by decide) rfl | assumption) (by first | exact gr G (by decide) rfl | assumption) ?_
          | refine T_iload_n (pc1 := 42) (pc := 41) k_M_pour_41 rfl rfl ?_
          | refine T_ialdN (pc1 := 43) (pc := 42) k_M_pour_42 rfl (by first | exact ga G (by decide) rfl | assumption) (by omega) (by omega) (by first | assumption | (simp (disch := omega) only [pI_eq, pI_row, pI_col, va_up_self, va_up_ne, ne_eq, not_false_eq_true, hSo, h1] <;> rfl) | rfl) ?_
          | refine T_iald (pc1 := 43) (pc := 42) k_M_pour_42 rfl (by first | exact ga G (by decide) rfl | assumption) (by assumption) ?_
          | (with_reducible refine T_icmp_geN (tgt := 120) (pc1 := 46) (pc := 43) k_M_pour_43 (by decide) (by decide) (by omega) (by omega) (fun hc => ?_) (fun hc => ?_) <;> first | (exfalso; omega) | skip)
          | refine T_icmp_ge_t (tgt := 120) (pc := 43) k_M_pour_43 rfl (by decide) ?_
          | refine T_icmp_ge_f (tgt := 120) (pc1 := 46) (pc := 43) k_M_pour_43 rfl rfl (by decide) ?_
          | refine T_icmp_ge (tgt := 120) (pc1 := 46) (pc := 43) k_M_pour_43 rfl rfl (fun hc => ?_) (fun hc => ?_)
          | refine T_aload_n (pc1 := 47) (pc := 46) k_M_pour_46 rfl rfl ?_
          | refine T_aload_nN (pc1 := 47) (pc := 46) k_M_pour_46 rfl rfl ?_
          | refine T_getR (pc1 := 50) (pc := 47) k_M_pour_47 rfl f_M_67 rfl (by first | exact ga G (by decide) rfl | assumption) (by first | exact gr G (by decide) rfl | assumption) ?_
          | refine T_bipush (v := (nI 24)) (pc1 := 52) (pc := 50) k_M_pour_50 rfl (by decide) ?_
          | refine T_iload_n (pc1 := 53) (pc := 52) k_M_pour_52 rfl rfl ?_
          | with_reducible refine T_imulN (pc1 := 54) (pc := 53) k_M_pour_53 (by decide) ?_
          | refine T_imul (pc1 := 54) (pc := 53) k_M_pour_53 rfl ?_
          | refine T_iload_n (pc1 := 55) (pc := 54) k_M_pour_54 rfl rfl ?_
          | with_reducible refine T_iaddN (pc1 := 56) (pc := 55) k_M_pour_55 (by decide) ?_
          | refine T_iadd (pc1 := 56) (pc := 55) k_M_pour_55 rfl ?_
          | refine T_ialdN (pc1 := 57) (pc := 56) k_M_pour_56 rfl (by first | exact ga G (by decide) rfl | assumption) (by omega) (by omega) (by first | assumption | (simp (disch := omega) only [pI_eq, pI_row, pI_col, va_up_self, va_up_ne, ne_eq, not_false_eq_true, hSo, h1] <;> rfl) | rfl) ?_
          | refine T_iald (pc1 := 57) (pc := 56) k_M_pour_56 rfl (by first | exact ga G (by decide) rfl | assumption) (by assumption) ?_
          | refine T_istore (pc1 := 59) (pc := 57) k_M_pour_57 rfl (Nat.le_of_ble_eq_true rfl) ?_
          | refine T_iload (pc1 := 61) (pc := 59) k_M_pour_59 rfl rfl ?_
          | refine T_ldc (v := (-1000000005)) (pc1 := 63) (pc := 61) k_M_pour_61 rfl c_M_103 ?_
          | (with_reducible refine T_icmp_neN (tgt := 75) (pc1 := 66) (pc := 63) k_M_pour_63 (by decide) (by decide) (by omega) (by omega) (fun hc => ?_) (fun hc => ?_) <;> first | (exfalso; omega) | skip)
          | refine T_icmp_ne_t (tgt := 75) (pc := 63) k_M_pour_63 rfl (by decide) ?_
          | refine T_icmp_ne_f (tgt := 75) (pc1 := 66) (pc := 63) k_M_pour_63 rfl rfl (by decide) ?_
          | refine T_icmp_ne (tgt := 75) (pc1 := 66) (pc := 63) k_M_pour_63 rfl rfl (fun hc => ?_) (fun hc => ?_)
          | refine T_aload_n (pc1 := 67) (pc := 66) k_M_pour_66 rfl rfl ?_
          | refine T_aload_nN (pc1 := 67) (pc := 66) k_M_pour_66 rfl rfl ?_
          | refine T_iload_n (pc1 := 68) (pc := 67) k_M_pour_67 rfl rfl ?_
          | refine T_iconst (v := (nI 5)) (pc1 := 69) (pc := 68) k_M_pour_68 rfl (by decide) ?_
          | (refine T_cV (As := [_, _]) (d1 := 1) (pc1 := 72) (pc := 69) k_M_pour_69 rfl (by decide) (Nat.le_of_ble_eq_true rfl) rfl o_M_bitIs l_M_124 rfl (by first | exact ga G (by decide) rfl | assumption) rfl (c_M_bitIs G (by omega) (by omega) eb ?_) <;> try dsimp only [psh])
          | refine T_goto (tgt := 84) (pc := 72) k_M_pour_72 rfl ?_
          | refine T_iload (pc1 := 77) (pc := 75) k_M_pour_75 rfl rfl ?_
          | refine T_iconst (v := (nI 0)) (pc1 := 78) (pc := 77) k_M_pour_77 rfl (by decide) ?_
          | refine T_sipush (v := (nI 999)) (pc1 := 81) (pc := 78) k_M_pour_78 rfl (by decide) ?_
          | (refine T_cS (As := [_, _, _]) (d1 := 1) (pc1 := 84) (pc := 81) k_M_pour_81 rfl (by decide) (Nat.le_of_ble_eq_true rfl) rfl o_M_between l_M_130 rfl (c_M_between ?_) <;> try dsimp only [psh])
          | refine T_istore (pc1 := 86) (pc := 84) k_M_pour_84 rfl (Nat.le_of_ble_eq_true rfl) ?_
          | refine T_iload_n (pc1 := 87) (pc := 86) k_M_pour_86 rfl rfl ?_
          | refine T_aload_n (pc1 := 88) (pc := 87) k_M_pour_87 rfl rfl ?_
          | refine T_aload_nN (pc1 := 88) (pc := 87) k_M_pour_87 rfl rfl ?_
          | refine T_bipush (v := (nI 12)) (pc1 := 90) (pc := 88) k_M_pour_88 rfl (by decide) ?_
          | refine T_bipush (v := (nI 6)) (pc1 := 92) (pc := 90) k_M_pour_90 rfl (by decide) ?_
          | refine T_iload_n (pc1 := 93) (pc := 92) k_M_pour_92 rfl rfl ?_
          | with_reducible refine T_imulN (pc1 := 94) (pc := 93) k_M_pour_93 (by decide) ?_
          | refine T_imul (pc1 := 94) (pc := 93) k_M_pour_93 rfl ?_
          | with_reducible refine T_iaddN (pc1 := 95) (pc := 94) k_M_pour_94 (by decide) ?_
          | refine T_iadd (pc1 := 95) (pc := 94) k_M_pour_94 rfl ?_
          | refine T_iconst (v := (nI 5)) (pc1 := 96) (pc := 95) k_M_pour_95 rfl (by decide) ?_
          | with_reducible refine T_iaddN (pc1 := 97) (pc := 96) k_M_pour_96 (by decide) ?_
          | refine T_iadd (pc1 := 97) (pc := 96) k_M_pour_96 rfl ?_
          | refine T_iload (pc1 := 99) (pc := 97) k_M_pour_97 rfl rfl ?_
          | (refine T_cV (As := [_, _]) (d1 := 1) (pc1 := 102) (pc := 99) k_M_pour_99 rfl (by decide) (Nat.le_of_ble_eq_true rfl) rfl o_M_become l_M_156 rfl (by first | exact ga G (by decide) rfl | assumption) rfl (c_M_become G (by omega) ?_) <;> try dsimp only [psh])
          | refine T_iload (pc1 := 104) (pc := 102) k_M_pour_102 rfl rfl ?_
          | (with_reducible refine T_icmp_neN (tgt := 111) (pc1 := 107) (pc := 104) k_M_pour_104 (by decide) (by decide) (by omega) (by omega) (fun hc => ?_) (fun hc => ?_) <;> first | (exfalso; omega) | skip)
          | refine T_icmp_ne_t (tgt := 111) (pc := 104) k_M_pour_104 rfl (by decide) ?_
          | refine T_icmp_ne_f (tgt := 111) (pc1 := 107) (pc := 104) k_M_pour_104 rfl rfl (by decide) ?_
          | refine T_icmp_ne (tgt := 111) (pc1 := 107) (pc := 104) k_M_pour_104 rfl rfl (fun hc => ?_) (fun hc => ?_)
          | refine T_iconst (v := (nI 0)) (pc1 := 108) (pc := 107) k_M_pour_107 rfl (by decide) ?_
          | refine T_goto (tgt := 112) (pc := 108) k_M_pour_108 rfl ?_
          | refine T_iconst (v := (nI 1)) (pc1 := 112) (pc := 111) k_M_pour_111 rfl (by decide) ?_
          | with_reducible refine T_iaddN (pc1 := 113) (pc := 112) k_M_pour_112 (by decide) ?_
          | refine T_iadd (pc1 := 113) (pc := 112) k_M_pour_112 rfl ?_
          | refine T_istore_n (pc1 := 114) (pc := 113) k_M_pour_113 rfl (Nat.le_of_ble_eq_true rfl) ?_
          | refine T_iincN (b := 1) (pc1 := 117) (pc := 114) k_M_pour_114 rfl rfl (by decide) ?_
          | refine T_iinc (v := (nI 1)) (pc1 := 117) (pc := 114) k_M_pour_114 rfl rfl (by decide) ?_
          | refine T_goto (tgt := 26) (pc := 117) k_M_pour_117 rfl ?_
          | refine T_iload_n (pc1 := 121) (pc := 120) k_M_pour_120 rfl rfl ?_
          | refine T_retI (pc := 121) k_M_pour_121 rfl (by first | rfl | decide | assumption) ?_)
        all_goals first | exact loop (min n z) 0 _ _ I (by omega) eqx_rf hN | (exfalso; exact hw hs)
  · obtain ⟨kA, kP⟩ := pour_bad (N := N) (n := n) (So := So) (Si := Si) (Pl := Pl) hs
    rw [kA, kP] at kk
    repeat' (first
      | refine T_iload_n (pc1 := 1) (pc := 0) k_M_pour_0 rfl rfl ?_
      | (refine T_cS (As := [_]) (d1 := 2) (pc1 := 4) (pc := 1) k_M_pour_1 rfl (by decide) (Nat.le_of_ble_eq_true rfl) rfl o_M_isSheet l_M_193 rfl (c_M_isSheet (fun hw => ?_) (fun hw => ?_)) <;> try dsimp only [psh])
      | (with_reducible refine T_if_neN (tgt := 10) (pc1 := 7) (pc := 4) k_M_pour_4 (by decide) (by decide) (by omega) (fun hc => ?_) (fun hc => ?_) <;> first | (exfalso; omega) | skip)
      | refine T_if_ne_t (tgt := 10) (pc := 4) k_M_pour_4 rfl (by decide) ?_
      | refine T_if_ne_f (tgt := 10) (pc1 := 7) (pc := 4) k_M_pour_4 rfl rfl (by decide) ?_
      | refine T_if_ne (tgt := 10) (pc1 := 7) (pc := 4) k_M_pour_4 rfl rfl (fun hc => ?_) (fun hc => ?_)
      | refine T_ldc (v := (-1000000001)) (pc1 := 9) (pc := 7) k_M_pour_7 rfl c_M_111 ?_
      | refine T_retI (pc := 9) k_M_pour_9 rfl (by first | rfl | decide | assumption) ?_)
    all_goals first | exact kk I _ eqx_rf hN rfl | (exfalso; exact hs (by assumption))
set_option maxHeartbeats 4000000 in
theorem c_M_reads {N So Si Pl : Row} {s : Int32} (G : GeoOK g) (hN : I 102 = N) (okw : okW N) (hSo : I 114 = So) (hSi : I 115 = Si) (hPl : I 116 = Pl) (oks : okS So Si) (kk : ∀ r, r = readsA N So Si Pl s → K (some (.int r)) g I) : Cl 3 M_M_reads [.ref 101, .int s] g I K := by
  show Rl 3 M_M_reads 0 [some (.ref 101), some (.int s), none, none] [] g I K
  obtain ⟨tr, h60, h9, -⟩ := okw
  have e0 : (0 : Int32).toInt = 0 := rfl
  by_cases hs : rg 4 s
  · obtain ⟨j, hj, rfl⟩ := rg_of hs (by omega)
    rcases oks j hj with ⟨h1, h2⟩ | ⟨h1, z, hz, h2⟩
    · rw [reads_no hj h1] at kk
      repeat' (first
        | refine T_iload_n (pc1 := 1) (pc := 0) k_M_reads_0 rfl rfl ?_
        | (refine T_cS (As := [_]) (d1 := 2) (pc1 := 4) (pc := 1) k_M_reads_1 rfl (by decide) (Nat.le_of_ble_eq_true rfl) rfl o_M_isSheet l_M_193 rfl (c_M_isSheet (fun hw => ?_) (fun hw => ?_)) <;> try dsimp only [psh])
        | (with_reducible refine T_if_neN (tgt := 10) (pc1 := 7) (pc := 4) k_M_reads_4 (by decide) (by decide) (by omega) (fun hc => ?_) (fun hc => ?_) <;> first | (exfalso; omega) | skip)
        | refine T_if_ne_t (tgt := 10) (pc := 4) k_M_reads_4 rfl (by decide) ?_
        | refine T_if_ne_f (tgt := 10) (pc1 := 7) (pc := 4) k_M_reads_4 rfl rfl (by decide) ?_
        | refine T_if_ne (tgt := 10) (pc1 := 7) (pc := 4) k_M_reads_4 rfl rfl (fun hc => ?_) (fun hc => ?_)
        | refine T_ldc (v := (-1000000001)) (pc1 := 9) (pc := 7) k_M_reads_7 rfl c_M_111 ?_
        | refine T_retI (pc := 9) k_M_reads_9 rfl (by first | rfl | decide | assumption) ?_
        | refine T_aload_n (pc1 := 11) (pc := 10) k_M_reads_10 rfl rfl ?_
        | refine T_aload_nN (pc1 := 11) (pc := 10) k_M_reads_10 rfl rfl ?_
        | refine T_getR (pc1 := 14) (pc := 11) k_M_reads_11 rfl f_M_61 rfl (by first | exact ga G (by decide) rfl | assumption) (by first | exact gr G (by decide) rfl | assumption) ?_
        | refine T_iload_n (pc1 := 15) (pc := 14) k_M_reads_14 rfl rfl ?_
        | refine T_ialdN (pc1 := 16) (pc := 15) k_M_reads_15 rfl (by first | exact ga G (by decide) rfl | assumption) (by omega) (by omega) (by first | assumption | (simp (disch := omega) only [pI_eq, pI_row, pI_col, va_up_self, va_up_ne, ne_eq, not_false_eq_true, hSo, h1] <;> rfl) | rfl) ?_
        | refine T_iald (pc1 := 16) (pc := 15) k_M_reads_15 rfl (by first | exact ga G (by decide) rfl | assumption) (by assumption) ?_
        | (with_reducible refine T_if_geN (tgt := 22) (pc1 := 19) (pc := 16) k_M_reads_16 (by decide) (by decide) (by omega) ?_ <;> first | (exfalso; omega) | skip)
        | refine T_if_ge_t (tgt := 22) (pc := 16) k_M_reads_16 rfl (by decide) ?_
        | refine T_if_ge_f (tgt := 22) (pc1 := 19) (pc := 16) k_M_reads_16 rfl rfl (by decide) ?_
        | refine T_if_ge (tgt := 22) (pc1 := 19) (pc := 16) k_M_reads_16 rfl rfl (fun hc => ?_) (fun hc => ?_)
        | refine T_ldc (v := (-1000000011)) (pc1 := 21) (pc := 19) k_M_reads_19 rfl c_M_196 ?_
        | refine T_retI (pc := 21) k_M_reads_21 rfl (by first | rfl | decide | assumption) ?_)
      all_goals first | exact kk _ rfl | (exfalso; exact hw hs)
    · have hne : ¬ So j = -1 := by rcases h1 with h | h <;> rw [h] <;> decide
      rw [reads_ok hj hne h2 hz] at kk
      have e2 : I 115 j = nI z := by rw [hSi]; exact h2
      have loop : ∀ q k o3, k + q = z → lsq (rdP N (shv Pl j)) 0 z = lsq (rdP N (shv Pl j)) k q → Rl 3 M_M_reads 24 [some (.ref 101), some (.int (nI j)), some (.int (nI k)), o3] [] g I K := by
        intro q
        induction q with
        | zero =>
          intro k o3 hk hl
          have hk : k = z := by omega
          subst hk
          rw [hl] at kk
          repeat' (first
            | refine T_iload_n (pc1 := 1) (pc := 0) k_M_reads_0 rfl rfl ?_
            | (refine T_cS (As := [_]) (d1 := 2) (pc1 := 4) (pc := 1) k_M_reads_1 rfl (by decide) (Nat.le_of_ble_eq_true rfl) rfl o_M_isSheet l_M_193 rfl (c_M_isSheet (fun hw => ?_) (fun hw => ?_)) <;> try dsimp only [psh])
            | (with_reducible refine T_if_neN (tgt := 10) (pc1 := 7) (pc := 4) k_M_reads_4 (by decide) (by decide) (by omega) (fun hc => ?_) (fun hc => ?_) <;> first | (exfalso; omega) | skip)
            | refine T_if_ne_t (tgt := 10) (pc := 4) k_M_reads_4 rfl (by decide) ?_
            | refine T_if_ne_f (tgt := 10) (pc1 := 7) (pc := 4) k_M_reads_4 rfl rfl (by decide) ?_
            | refine T_if_ne (tgt := 10) (pc1 := 7) (pc := 4) k_M_reads_4 rfl rfl (fun hc => ?_) (fun hc => ?_)
            | refine T_ldc (v := (-1000000001)) (pc1 := 9) (pc := 7) k_M_reads_7 rfl c_M_111 ?_
            | refine T_retI (pc := 9) k_M_reads_9 rfl (by first | rfl | decide | assumption) ?_
            | refine T_aload_n (pc1 := 11) (pc := 10) k_M_reads_10 rfl rfl ?_
            | refine T_aload_nN (pc1 := 11) (pc := 10) k_M_reads_10 rfl rfl ?_
            | refine T_getR (pc1 := 14) (pc := 11) k_M_reads_11 rfl f_M_61 rfl (by first | exact ga G (by decide) rfl | assumption) (by first | exact gr G (by decide) rfl | assumption) ?_
            | refine T_iload_n (pc1 := 15) (pc := 14) k_M_reads_14 rfl rfl ?_
            | refine T_ialdN (pc1 := 16) (pc := 15) k_M_reads_15 rfl (by first | exact ga G (by decide) rfl | assumption) (by omega) (by omega) (by first | assumption | (simp (disch := omega) only [pI_eq, pI_row, pI_col, va_up_self, va_up_ne, ne_eq, not_false_eq_true, hSo, h1] <;> rfl) | rfl) ?_
            | refine T_iald (pc1 := 16) (pc := 15) k_M_reads_15 rfl (by first | exact ga G (by decide) rfl | assumption) (by assumption) ?_
            | (with_reducible refine T_if_geN (tgt := 22) (pc1 := 19) (pc := 16) k_M_reads_16 (by decide) (by decide) (by omega) ?_ <;> first | (exfalso; omega) | skip)
            | refine T_if_ge_t (tgt := 22) (pc := 16) k_M_reads_16 rfl (by decide) ?_
            | refine T_if_ge_f (tgt := 22) (pc1 := 19) (pc := 16) k_M_reads_16 rfl rfl (by decide) ?_
            | refine T_if_ge (tgt := 22) (pc1 := 19) (pc := 16) k_M_reads_16 rfl rfl (fun hc => ?_) (fun hc => ?_)
            | refine T_ldc (v := (-1000000011)) (pc1 := 21) (pc := 19) k_M_reads_19 rfl c_M_196 ?_
            | refine T_retI (pc := 21) k_M_reads_21 rfl (by first | rfl | decide | assumption) ?_
            | refine T_iconst (v := (nI 0)) (pc1 := 23) (pc := 22) k_M_reads_22 rfl (by decide) ?_
            | refine T_istore_n (pc1 := 24) (pc := 23) k_M_reads_23 rfl (Nat.le_of_ble_eq_true rfl) ?_
            | refine T_iload_n (pc1 := 25) (pc := 24) k_M_reads_24 rfl rfl ?_
            | refine T_aload_n (pc1 := 26) (pc := 25) k_M_reads_25 rfl rfl ?_
            | refine T_aload_nN (pc1 := 26) (pc := 25) k_M_reads_25 rfl rfl ?_
            | refine T_getR (pc1 := 29) (pc := 26) k_M_reads_26 rfl f_M_64 rfl (by first | exact ga G (by decide) rfl | assumption) (by first | exact gr G (by decide) rfl | assumption) ?_
            | refine T_iload_n (pc1 := 30) (pc := 29) k_M_reads_29 rfl rfl ?_
            | refine T_ialdN (pc1 := 31) (pc := 30) k_M_reads_30 rfl (by first | exact ga G (by decide) rfl | assumption) (by omega) (by omega) (by first | assumption | (simp (disch := omega) only [pI_eq, pI_row, pI_col, va_up_self, va_up_ne, ne_eq, not_false_eq_true, hSo, h1] <;> rfl) | rfl) ?_
            | refine T_iald (pc1 := 31) (pc := 30) k_M_reads_30 rfl (by first | exact ga G (by decide) rfl | assumption) (by assumption) ?_
            | (with_reducible refine T_icmp_geN (tgt := 73) (pc1 := 34) (pc := 31) k_M_reads_31 (by decide) (by decide) (by omega) (by omega) (fun hc => ?_) (fun hc => ?_) <;> first | (exfalso; omega) | skip)
            | refine T_icmp_ge_t (tgt := 73) (pc := 31) k_M_reads_31 rfl (by decide) ?_
            | refine T_icmp_ge_f (tgt := 73) (pc1 := 34) (pc := 31) k_M_reads_31 rfl rfl (by decide) ?_
            | refine T_icmp_ge (tgt := 73) (pc1 := 34) (pc := 31) k_M_reads_31 rfl rfl (fun hc => ?_) (fun hc => ?_)
            | refine T_aload_n (pc1 := 35) (pc := 34) k_M_reads_34 rfl rfl ?_
            | refine T_aload_nN (pc1 := 35) (pc := 34) k_M_reads_34 rfl rfl ?_
            | refine T_getR (pc1 := 38) (pc := 35) k_M_reads_35 rfl f_M_67 rfl (by first | exact ga G (by decide) rfl | assumption) (by first | exact gr G (by decide) rfl | assumption) ?_
            | refine T_bipush (v := (nI 24)) (pc1 := 40) (pc := 38) k_M_reads_38 rfl (by decide) ?_
            | refine T_iload_n (pc1 := 41) (pc := 40) k_M_reads_40 rfl rfl ?_
            | with_reducible refine T_imulN (pc1 := 42) (pc := 41) k_M_reads_41 (by decide) ?_
            | refine T_imul (pc1 := 42) (pc := 41) k_M_reads_41 rfl ?_
            | refine T_iload_n (pc1 := 43) (pc := 42) k_M_reads_42 rfl rfl ?_
            | with_reducible refine T_iaddN (pc1 := 44) (pc := 43) k_M_reads_43 (by decide) ?_
            | refine T_iadd (pc1 := 44) (pc := 43) k_M_reads_43 rfl ?_
            | refine T_ialdN (pc1 := 45) (pc := 44) k_M_reads_44 rfl (by first | exact ga G (by decide) rfl | assumption) (by omega) (by omega) (by first | assumption | (simp (disch := omega) only [pI_eq, pI_row, pI_col, va_up_self, va_up_ne, ne_eq, not_false_eq_true, hSo, h1] <;> rfl) | rfl) ?_
            | refine T_iald (pc1 := 45) (pc := 44) k_M_reads_44 rfl (by first | exact ga G (by decide) rfl | assumption) (by assumption) ?_
            | refine T_istore_n (pc1 := 46) (pc := 45) k_M_reads_45 rfl (Nat.le_of_ble_eq_true rfl) ?_
            | refine T_iload_n (pc1 := 47) (pc := 46) k_M_reads_46 rfl rfl ?_
            | refine T_ldc (v := (-1000000005)) (pc1 := 49) (pc := 47) k_M_reads_47 rfl c_M_103 ?_
            | (with_reducible refine T_icmp_eqN (tgt := 67) (pc1 := 52) (pc := 49) k_M_reads_49 (by decide) (by decide) (by omega) (by omega) (fun hc => ?_) (fun hc => ?_) <;> first | (exfalso; omega) | skip)
            | refine T_icmp_eq_t (tgt := 67) (pc := 49) k_M_reads_49 rfl (by decide) ?_
            | refine T_icmp_eq_f (tgt := 67) (pc1 := 52) (pc := 49) k_M_reads_49 rfl rfl (by decide) ?_
            | refine T_icmp_eq (tgt := 67) (pc1 := 52) (pc := 49) k_M_reads_49 rfl rfl (fun hc => ?_) (fun hc => ?_)
            | refine T_iload_n (pc1 := 53) (pc := 52) k_M_reads_52 rfl rfl ?_
            | (with_reducible refine T_if_ltN (tgt := 65) (pc1 := 56) (pc := 53) k_M_reads_53 (by decide) (by decide) (by omega) ?_ <;> first | (exfalso; omega) | skip)
            | refine T_if_lt_t (tgt := 65) (pc := 53) k_M_reads_53 rfl (by decide) ?_
            | refine T_if_lt_f (tgt := 65) (pc1 := 56) (pc := 53) k_M_reads_53 rfl rfl (by decide) ?_
            | refine T_if_lt (tgt := 65) (pc1 := 56) (pc := 53) k_M_reads_53 rfl rfl (fun hc => ?_) (fun hc => ?_)
            | refine T_iload_n (pc1 := 57) (pc := 56) k_M_reads_56 rfl rfl ?_
            | refine T_aload_n (pc1 := 58) (pc := 57) k_M_reads_57 rfl rfl ?_
            | refine T_aload_nN (pc1 := 58) (pc := 57) k_M_reads_57 rfl rfl ?_
            | refine T_iload_n (pc1 := 59) (pc := 58) k_M_reads_58 rfl rfl ?_
            | (refine T_cV (As := [_]) (d1 := 1) (pc1 := 62) (pc := 59) k_M_reads_59 rfl (by decide) (Nat.le_of_ble_eq_true rfl) rfl o_M_triedAt l_M_177 rfl (by first | exact ga G (by decide) rfl | assumption) rfl (c_M_triedAt G (by assumption) (by assumption) (by assumption) (by assumption) (by first | assumption | rfl) ?_) <;> try dsimp only [psh])
            | (with_reducible refine T_icmp_eqN (tgt := 67) (pc1 := 65) (pc := 62) k_M_reads_62 (by decide) (by decide) (by omega) (by omega) (fun hc => ?_) (fun hc => ?_) <;> first | (exfalso; omega) | skip)
            | refine T_icmp_eq_t (tgt := 67) (pc := 62) k_M_reads_62 rfl (by decide) ?_
            | refine T_icmp_eq_f (tgt := 67) (pc1 := 65) (pc := 62) k_M_reads_62 rfl rfl (by decide) ?_
            | refine T_icmp_eq (tgt := 67) (pc1 := 65) (pc := 62) k_M_reads_62 rfl rfl (fun hc => ?_) (fun hc => ?_)
            | refine T_iload_n (pc1 := 66) (pc := 65) k_M_reads_65 rfl rfl ?_
            | refine T_retI (pc := 66) k_M_reads_66 rfl (by first | rfl | decide | assumption) ?_
            | refine T_iincN (b := 1) (pc1 := 70) (pc := 67) k_M_reads_67 rfl rfl (by decide) ?_
            | refine T_iinc (v := (nI 1)) (pc1 := 70) (pc := 67) k_M_reads_67 rfl rfl (by decide) ?_
            | refine T_goto (tgt := 24) (pc := 70) k_M_reads_70 rfl ?_
            | refine T_ldc (v := (-1000000005)) (pc1 := 75) (pc := 73) k_M_reads_73 rfl c_M_103 ?_
            | refine T_retI (pc := 75) k_M_reads_75 rfl (by first | rfl | decide | assumption) ?_)
          exact kk _ rfl
        | succ q ih =>
          intro k o3 hk hl
          have e3 : I 116 (24 * j + k) = shv Pl j k := by rw [hPl]; rfl
          have ek : 0 ≤ (nI k).toInt := by rw [nI_toInt (by omega)]; omega
          have el : lsq (rdP N (shv Pl j)) k (q + 1) = if rdP N (shv Pl j) k = true then some k else lsq (rdP N (shv Pl j)) (k + 1) q := rfl
          rw [el] at hl
          have ih := ih (k + 1)
          have yes : (¬ shv Pl j k = cNONE ∧ ((shv Pl j k).toInt < 0 ∨ ¬ shv Pl j k = trA N (nI k))) → K (some (.int (nI k))) g I := fun h => kk _ (by rw [hl, if_pos (show rdP N (shv Pl j) k = true from decide_eq_true h)]; rfl)
          have no : ¬ (¬ shv Pl j k = cNONE ∧ ((shv Pl j k).toInt < 0 ∨ ¬ shv Pl j k = trA N (nI k))) → ∀ o, Rl 3 M_M_reads 24 [some (.ref 101), some (.int (nI j)), some (.int (nI (k + 1))), o] [] g I K := fun h o => ih o (by omega) (by rw [hl, if_neg (fun q : rdP N (shv Pl j) k = true => h (of_decide_eq_true q))])
          refine T_iload_n (pc1 := 25) (pc := 24) k_M_reads_24 rfl rfl ?_
          repeat' (first
            | refine T_iload_n (pc1 := 1) (pc := 0) k_M_reads_0 rfl rfl ?_
            | (refine T_cS (As := [_]) (d1 := 2) (pc1 := 4) (pc := 1) k_M_reads_1 rfl (by decide) (Nat.le_of_ble_eq_true rfl) rfl o_M_isSheet l_M_193 rfl (c_M_isSheet (fun hw => ?_) (fun hw => ?_)) <;> try dsimp only [psh])
            | (with_reducible refine T_if_neN (tgt := 10) (pc1 := 7) (pc := 4) k_M_reads_4 (by decide) (by decide) (by omega) (fun hc => ?_) (fun hc => ?_) <;> first | (exfalso; omega) | skip)
            | refine T_if_ne_t (tgt := 10) (pc := 4) k_M_reads_4 rfl (by decide) ?_
            | refine T_if_ne_f (tgt := 10) (pc1 := 7) (pc := 4) k_M_reads_4 rfl rfl (by decide) ?_
            | refine T_if_ne (tgt := 10) (pc1 := 7) (pc := 4) k_M_reads_4 rfl rfl (fun hc => ?_) (fun hc => ?_)
            | refine T_ldc (v := (-1000000001)) (pc1 := 9) (pc := 7) k_M_reads_7 rfl c_M_111 ?_
            | refine T_retI (pc := 9) k_M_reads_9 rfl (by first | rfl | decide | assumption) ?_
            | refine T_aload_n (pc1 := 11) (pc := 10) k_M_reads_10 rfl rfl ?_
            | refine T_aload_nN (pc1 := 11) (pc := 10) k_M_reads_10 rfl rfl ?_
            | refine T_getR (pc1 := 14) (pc := 11) k_M_reads_11 rfl f_M_61 rfl (by first | exact ga G (by decide) rfl | assumption) (by first | exact gr G (by decide) rfl | assumption) ?_
            | refine T_iload_n (pc1 := 15) (pc := 14) k_M_reads_14 rfl rfl ?_
            | refine T_ialdN (pc1 := 16) (pc := 15) k_M_reads_15 rfl (by first | exact ga G (by decide) rfl | assumption) (by omega) (by omega) (by first | assumption | (simp (disch := omega) only [pI_eq, pI_row, pI_col, va_up_self, va_up_ne, ne_eq, not_false_eq_true, hSo, h1] <;> rfl) | rfl) ?_
            | refine T_iald (pc1 := 16) (pc := 15) k_M_reads_15 rfl (by first | exact ga G (by decide) rfl | assumption) (by assumption) ?_
            | (with_reducible refine T_if_geN (tgt := 22) (pc1 := 19) (pc := 16) k_M_reads_16 (by decide) (by decide) (by omega) ?_ <;> first | (exfalso; omega) | skip)
            | refine T_if_ge_t (tgt := 22) (pc := 16) k_M_reads_16 rfl (by decide) ?_
            | refine T_if_ge_f (tgt := 22) (pc1 := 19) (pc := 16) k_M_reads_16 rfl rfl (by decide) ?_
            | refine T_if_ge (tgt := 22) (pc1 := 19) (pc := 16) k_M_reads_16 rfl rfl (fun hc => ?_) (fun hc => ?_)
            | refine T_ldc (v := (-1000000011)) (pc1 := 21) (pc := 19) k_M_reads_19 rfl c_M_196 ?_
            | refine T_retI (pc := 21) k_M_reads_21 rfl (by first | rfl | decide | assumption) ?_
            | refine T_iconst (v := (nI 0)) (pc1 := 23) (pc := 22) k_M_reads_22 rfl (by decide) ?_
            | refine T_istore_n (pc1 := 24) (pc := 23) k_M_reads_23 rfl (Nat.le_of_ble_eq_true rfl) ?_
            | refine T_aload_n (pc1 := 26) (pc := 25) k_M_reads_25 rfl rfl ?_
            | refine T_aload_nN (pc1 := 26) (pc := 25) k_M_reads_25 rfl rfl ?_
            | refine T_getR (pc1 := 29) (pc := 26) k_M_reads_26 rfl f_M_64 rfl (by first | exact ga G (by decide) rfl | assumption) (by first | exact gr G (by decide) rfl | assumption) ?_
            | refine T_iload_n (pc1 := 30) (pc := 29) k_M_reads_29 rfl rfl ?_
            | refine T_ialdN (pc1 := 31) (pc := 30) k_M_reads_30 rfl (by first | exact ga G (by decide) rfl | assumption) (by omega) (by omega) (by first | assumption | (simp (disch := omega) only [pI_eq, pI_row, pI_col, va_up_self, va_up_ne, ne_eq, not_false_eq_true, hSo, h1] <;> rfl) | rfl) ?_
            | refine T_iald (pc1 := 31) (pc := 30) k_M_reads_30 rfl (by first | exact ga G (by decide) rfl | assumption) (by assumption) ?_
            | (with_reducible refine T_icmp_geN (tgt := 73) (pc1 := 34) (pc := 31) k_M_reads_31 (by decide) (by decide) (by omega) (by omega) (fun hc => ?_) (fun hc => ?_) <;> first | (exfalso; omega) | skip)
            | refine T_icmp_ge_t (tgt := 73) (pc := 31) k_M_reads_31 rfl (by decide) ?_
            | refine T_icmp_ge_f (tgt := 73) (pc1 := 34) (pc := 31) k_M_reads_31 rfl rfl (by decide) ?_
            | refine T_icmp_ge (tgt := 73) (pc1 := 34) (pc := 31) k_M_reads_31 rfl rfl (fun hc => ?_) (fun hc => ?_)
            | refine T_aload_n (pc1 := 35) (pc := 34) k_M_reads_34 rfl rfl ?_
            | refine T_aload_nN (pc1 := 35) (pc := 34) k_M_reads_34 rfl rfl ?_
            | refine T_getR (pc1 := 38) (pc := 35) k_M_reads_35 rfl f_M_67 rfl (by first | exact ga G (by decide) rfl | assumption) (by first | exact gr G (by decide) rfl | assumption) ?_
            | refine T_bipush (v := (nI 24)) (pc1 := 40) (pc := 38) k_M_reads_38 rfl (by decide) ?_
            | refine T_iload_n (pc1 := 41) (pc := 40) k_M_reads_40 rfl rfl ?_
            | with_reducible refine T_imulN (pc1 := 42) (pc := 41) k_M_reads_41 (by decide) ?_
            | refine T_imul (pc1 := 42) (pc := 41) k_M_reads_41 rfl ?_
            | refine T_iload_n (pc1 := 43) (pc := 42) k_M_reads_42 rfl rfl ?_
            | with_reducible refine T_iaddN (pc1 := 44) (pc := 43) k_M_reads_43 (by decide) ?_
            | refine T_iadd (pc1 := 44) (pc := 43) k_M_reads_43 rfl ?_
            | refine T_ialdN (pc1 := 45) (pc := 44) k_M_reads_44 rfl (by first | exact ga G (by decide) rfl | assumption) (by omega) (by omega) (by first | assumption | (simp (disch := omega) only [pI_eq, pI_row, pI_col, va_up_self, va_up_ne, ne_eq, not_false_eq_true, hSo, h1] <;> rfl) | rfl) ?_
            | refine T_iald (pc1 := 45) (pc := 44) k_M_reads_44 rfl (by first | exact ga G (by decide) rfl | assumption) (by assumption) ?_
            | refine T_istore_n (pc1 := 46) (pc := 45) k_M_reads_45 rfl (Nat.le_of_ble_eq_true rfl) ?_
            | refine T_iload_n (pc1 := 47) (pc := 46) k_M_reads_46 rfl rfl ?_
            | refine T_ldc (v := (-1000000005)) (pc1 := 49) (pc := 47) k_M_reads_47 rfl c_M_103 ?_
            | (with_reducible refine T_icmp_eqN (tgt := 67) (pc1 := 52) (pc := 49) k_M_reads_49 (by decide) (by decide) (by omega) (by omega) (fun hc => ?_) (fun hc => ?_) <;> first | (exfalso; omega) | skip)
            | refine T_icmp_eq_t (tgt := 67) (pc := 49) k_M_reads_49 rfl (by decide) ?_
            | refine T_icmp_eq_f (tgt := 67) (pc1 := 52) (pc := 49) k_M_reads_49 rfl rfl (by decide) ?_
            | refine T_icmp_eq (tgt := 67) (pc1 := 52) (pc := 49) k_M_reads_49 rfl rfl (fun hc => ?_) (fun hc => ?_)
            | refine T_iload_n (pc1 := 53) (pc := 52) k_M_reads_52 rfl rfl ?_
            | (with_reducible refine T_if_ltN (tgt := 65) (pc1 := 56) (pc := 53) k_M_reads_53 (by decide) (by decide) (by omega) ?_ <;> first | (exfalso; omega) | skip)
            | refine T_if_lt_t (tgt := 65) (pc := 53) k_M_reads_53 rfl (by decide) ?_
            | refine T_if_lt_f (tgt := 65) (pc1 := 56) (pc := 53) k_M_reads_53 rfl rfl (by decide) ?_
            | refine T_if_lt (tgt := 65) (pc1 := 56) (pc := 53) k_M_reads_53 rfl rfl (fun hc => ?_) (fun hc => ?_)
            | refine T_iload_n (pc1 := 57) (pc := 56) k_M_reads_56 rfl rfl ?_
            | refine T_aload_n (pc1 := 58) (pc := 57) k_M_reads_57 rfl rfl ?_
            | refine T_aload_nN (pc1 := 58) (pc := 57) k_M_reads_57 rfl rfl ?_
            | refine T_iload_n (pc1 := 59) (pc := 58) k_M_reads_58 rfl rfl ?_
            | (refine T_cV (As := [_]) (d1 := 1) (pc1 := 62) (pc := 59) k_M_reads_59 rfl (by decide) (Nat.le_of_ble_eq_true rfl) rfl o_M_triedAt l_M_177 rfl (by first | exact ga G (by decide) rfl | assumption) rfl (c_M_triedAt G hN h9 h60 ek rfl ?_) <;> try dsimp only [psh])
            | (with_reducible refine T_icmp_eqN (tgt := 67) (pc1 := 65) (pc := 62) k_M_reads_62 (by decide) (by decide) (by omega) (by omega) (fun hc => ?_) (fun hc => ?_) <;> first | (exfalso; omega) | skip)
            | refine T_icmp_eq_t (tgt := 67) (pc := 62) k_M_reads_62 rfl (by decide) ?_
            | refine T_icmp_eq_f (tgt := 67) (pc1 := 65) (pc := 62) k_M_reads_62 rfl rfl (by decide) ?_
            | refine T_icmp_eq (tgt := 67) (pc1 := 65) (pc := 62) k_M_reads_62 rfl rfl (fun hc => ?_) (fun hc => ?_)
            | refine T_iload_n (pc1 := 66) (pc := 65) k_M_reads_65 rfl rfl ?_
            | refine T_retI (pc := 66) k_M_reads_66 rfl (by first | rfl | decide | assumption) ?_
            | refine T_iincN (b := 1) (pc1 := 70) (pc := 67) k_M_reads_67 rfl rfl (by decide) ?_
            | refine T_iinc (v := (nI 1)) (pc1 := 70) (pc := 67) k_M_reads_67 rfl rfl (by decide) ?_
            | refine T_goto (tgt := 24) (pc := 70) k_M_reads_70 rfl ?_
            | refine T_ldc (v := (-1000000005)) (pc1 := 75) (pc := 73) k_M_reads_73 rfl c_M_103 ?_
            | refine T_retI (pc := 75) k_M_reads_75 rfl (by first | rfl | decide | assumption) ?_)
          all_goals first | exact no (fun q => q.1 (by assumption)) _ | exact yes ⟨by assumption, Or.inl (by rw [lt_toInt] at *; omega)⟩ | exact yes ⟨by assumption, Or.inr (by assumption)⟩ | exact no (fun q => by rcases q.2 with q | q; (rw [lt_toInt] at *; omega); exact q (by assumption)) _
      rcases h1 with h1 | h1
      all_goals
        repeat' (first
          | refine T_iload_n (pc1 := 1) (pc := 0) k_M_reads_0 rfl rfl ?_
          | (refine T_cS (As := [_]) (d1 := 2) (pc1 := 4) (pc := 1) k_M_reads_1 rfl (by decide) (Nat.le_of_ble_eq_true rfl) rfl o_M_isSheet l_M_193 rfl (c_M_isSheet (fun hw => ?_) (fun hw => ?_)) <;> try dsimp only [psh])
          | (with_reducible refine T_if_neN (tgt := 10) (pc1 := 7) (pc := 4) k_M_reads_4 (by decide) (by decide) (by omega) (fun hc => ?_) (fun hc => ?_) <;> first | (exfalso; omega) | skip)
          | refine T_if_ne_t (tgt := 10) (pc := 4) k_M_reads_4 rfl (by decide) ?_
          | refine T_if_ne_f (tgt := 10) (pc1 := 7) (pc := 4) k_M_reads_4 rfl rfl (by decide) ?_
          | refine T_if_ne (tgt := 10) (pc1 := 7) (pc := 4) k_M_reads_4 rfl rfl (fun hc => ?_) (fun hc => ?_)
          | refine T_ldc (v := (-1000000001)) (pc1 := 9) (pc := 7) k_M_reads_7 rfl c_M_111 ?_
          | refine T_retI (pc := 9) k_M_reads_9 rfl (by first | rfl | decide | assumption) ?_
          | refine T_aload_n (pc1 := 11) (pc := 10) k_M_reads_10 rfl rfl ?_
          | refine T_aload_nN (pc1 := 11) (pc := 10) k_M_reads_10 rfl rfl ?_
          | refine T_getR (pc1 := 14) (pc := 11) k_M_reads_11 rfl f_M_61 rfl (by first | exact ga G (by decide) rfl | assumption) (by first | exact gr G (by decide) rfl | assumption) ?_
          | refine T_iload_n (pc1 := 15) (pc := 14) k_M_reads_14 rfl rfl ?_
          | refine T_ialdN (pc1 := 16) (pc := 15) k_M_reads_15 rfl (by first | exact ga G (by decide) rfl | assumption) (by omega) (by omega) (by first | assumption | (simp (disch := omega) only [pI_eq, pI_row, pI_col, va_up_self, va_up_ne, ne_eq, not_false_eq_true, hSo, h1] <;> rfl) | rfl) ?_
          | refine T_iald (pc1 := 16) (pc := 15) k_M_reads_15 rfl (by first | exact ga G (by decide) rfl | assumption) (by assumption) ?_
          | (with_reducible refine T_if_geN (tgt := 22) (pc1 := 19) (pc := 16) k_M_reads_16 (by decide) (by decide) (by omega) ?_ <;> first | (exfalso; omega) | skip)
          | refine T_if_ge_t (tgt := 22) (pc := 16) k_M_reads_16 rfl (by decide) ?_
          | refine T_if_ge_f (tgt := 22) (pc1 := 19) (pc := 16) k_M_reads_16 rfl rfl (by decide) ?_
          | refine T_if_ge (tgt := 22) (pc1 := 19) (pc := 16) k_M_reads_16 rfl rfl (fun hc => ?_) (fun hc => ?_)
          | refine T_ldc (v := (-1000000011)) (pc1 := 21) (pc := 19) k_M_reads_19 rfl c_M_196 ?_
          | refine T_retI (pc := 21) k_M_reads_21 rfl (by first | rfl | decide | assumption) ?_
          | refine T_iconst (v := (nI 0)) (pc1 := 23) (pc := 22) k_M_reads_22 rfl (by decide) ?_
          | refine T_istore_n (pc1 := 24) (pc := 23) k_M_reads_23 rfl (Nat.le_of_ble_eq_true rfl) ?_
          | refine T_aload_n (pc1 := 26) (pc := 25) k_M_reads_25 rfl rfl ?_
          | refine T_aload_nN (pc1 := 26) (pc := 25) k_M_reads_25 rfl rfl ?_
          | refine T_getR (pc1 := 29) (pc := 26) k_M_reads_26 rfl f_M_64 rfl (by first | exact ga G (by decide) rfl | assumption) (by first | exact gr G (by decide) rfl | assumption) ?_
          | refine T_iload_n (pc1 := 30) (pc := 29) k_M_reads_29 rfl rfl ?_
          | refine T_ialdN (pc1 := 31) (pc := 30) k_M_reads_30 rfl (by first | exact ga G (by decide) rfl | assumption) (by omega) (by omega) (by first | assumption | (simp (disch := omega) only [pI_eq, pI_row, pI_col, va_up_self, va_up_ne, ne_eq, not_false_eq_true, hSo, h1] <;> rfl) | rfl) ?_
          | refine T_iald (pc1 := 31) (pc := 30) k_M_reads_30 rfl (by first | exact ga G (by decide) rfl | assumption) (by assumption) ?_
          | (with_reducible refine T_icmp_geN (tgt := 73) (pc1 := 34) (pc := 31) k_M_reads_31 (by decide) (by decide) (by omega) (by omega) (fun hc => ?_) (fun hc => ?_) <;> first | (exfalso; omega) | skip)
          | refine T_icmp_ge_t (tgt := 73) (pc := 31) k_M_reads_31 rfl (by decide) ?_
          | refine T_icmp_ge_f (tgt := 73) (pc1 := 34) (pc := 31) k_M_reads_31 rfl rfl (by decide) ?_
          | refine T_icmp_ge (tgt := 73) (pc1 := 34) (pc := 31) k_M_reads_31 rfl rfl (fun hc => ?_) (fun hc => ?_)
          | refine T_aload_n (pc1 := 35) (pc := 34) k_M_reads_34 rfl rfl ?_
          | refine T_aload_nN (pc1 := 35) (pc := 34) k_M_reads_34 rfl rfl ?_
          | refine T_getR (pc1 := 38) (pc := 35) k_M_reads_35 rfl f_M_67 rfl (by first | exact ga G (by decide) rfl | assumption) (by first | exact gr G (by decide) rfl | assumption) ?_
          | refine T_bipush (v := (nI 24)) (pc1 := 40) (pc := 38) k_M_reads_38 rfl (by decide) ?_
          | refine T_iload_n (pc1 := 41) (pc := 40) k_M_reads_40 rfl rfl ?_
          | with_reducible refine T_imulN (pc1 := 42) (pc := 41) k_M_reads_41 (by decide) ?_
          | refine T_imul (pc1 := 42) (pc := 41) k_M_reads_41 rfl ?_
          | refine T_iload_n (pc1 := 43) (pc := 42) k_M_reads_42 rfl rfl ?_
          | with_reducible refine T_iaddN (pc1 := 44) (pc := 43) k_M_reads_43 (by decide) ?_
          | refine T_iadd (pc1 := 44) (pc := 43) k_M_reads_43 rfl ?_
          | refine T_ialdN (pc1 := 45) (pc := 44) k_M_reads_44 rfl (by first | exact ga G (by decide) rfl | assumption) (by omega) (by omega) (by first | assumption | (simp (disch := omega) only [pI_eq, pI_row, pI_col, va_up_self, va_up_ne, ne_eq, not_false_eq_true, hSo, h1] <;> rfl) | rfl) ?_
          | refine T_iald (pc1 := 45) (pc := 44) k_M_reads_44 rfl (by first | exact ga G (by decide) rfl | assumption) (by assumption) ?_
          | refine T_istore_n (pc1 := 46) (pc := 45) k_M_reads_45 rfl (Nat.le_of_ble_eq_true rfl) ?_
          | refine T_iload_n (pc1 := 47) (pc := 46) k_M_reads_46 rfl rfl ?_
          | refine T_ldc (v := (-1000000005)) (pc1 := 49) (pc := 47) k_M_reads_47 rfl c_M_103 ?_
          | (with_reducible refine T_icmp_eqN (tgt := 67) (pc1 := 52) (pc := 49) k_M_reads_49 (by decide) (by decide) (by omega) (by omega) (fun hc => ?_) (fun hc => ?_) <;> first | (exfalso; omega) | skip)
          | refine T_icmp_eq_t (tgt := 67) (pc := 49) k_M_reads_49 rfl (by decide) ?_
          | refine T_icmp_eq_f (tgt := 67) (pc1 := 52) (pc := 49) k_M_reads_49 rfl rfl (by decide) ?_
          | refine T_icmp_eq (tgt := 67) (pc1 := 52) (pc := 49) k_M_reads_49 rfl rfl (fun hc => ?_) (fun hc => ?_)
          | refine T_iload_n (pc1 := 53) (pc := 52) k_M_reads_52 rfl rfl ?_
          | (with_reducible refine T_if_ltN (tgt := 65) (pc1 := 56) (pc := 53) k_M_reads_53 (by decide) (by decide) (by omega) ?_ <;> first | (exfalso; omega) | skip)
          | refine T_if_lt_t (tgt := 65) (pc := 53) k_M_reads_53 rfl (by decide) ?_
          | refine T_if_lt_f (tgt := 65) (pc1 := 56) (pc := 53) k_M_reads_53 rfl rfl (by decide) ?_
          | refine T_if_lt (tgt := 65) (pc1 := 56) (pc := 53) k_M_reads_53 rfl rfl (fun hc => ?_) (fun hc => ?_)
          | refine T_iload_n (pc1 := 57) (pc := 56) k_M_reads_56 rfl rfl ?_
          | refine T_aload_n (pc1 := 58) (pc := 57) k_M_reads_57 rfl rfl ?_
          | refine T_aload_nN (pc1 := 58) (pc := 57) k_M_reads_57 rfl rfl ?_
          | refine T_iload_n (pc1 := 59) (pc := 58) k_M_reads_58 rfl rfl ?_
          | (refine T_cV (As := [_]) (d1 := 1) (pc1 := 62) (pc := 59) k_M_reads_59 rfl (by decide) (Nat.le_of_ble_eq_true rfl) rfl o_M_triedAt l_M_177 rfl (by first | exact ga G (by decide) rfl | assumption) rfl (c_M_triedAt G hN h9 h60 ek rfl ?_) <;> try dsimp only [psh])
          | (with_reducible refine T_icmp_eqN (tgt := 67) (pc1 := 65) (pc := 62) k_M_reads_62 (by decide) (by decide) (by omega) (by omega) (fun hc => ?_) (fun hc => ?_) <;> first | (exfalso; omega) | skip)
          | refine T_icmp_eq_t (tgt := 67) (pc := 62) k_M_reads_62 rfl (by decide) ?_
          | refine T_icmp_eq_f (tgt := 67) (pc1 := 65) (pc := 62) k_M_reads_62 rfl rfl (by decide) ?_
          | refine T_icmp_eq (tgt := 67) (pc1 := 65) (pc := 62) k_M_reads_62 rfl rfl (fun hc => ?_) (fun hc => ?_)
          | refine T_iload_n (pc1 := 66) (pc := 65) k_M_reads_65 rfl rfl ?_
          | refine T_retI (pc := 66) k_M_reads_66 rfl (by first | rfl | decide | assumption) ?_
          | refine T_iincN (b := 1) (pc1 := 70) (pc := 67) k_M_reads_67 rfl rfl (by decide) ?_
          | refine T_iinc (v := (nI 1)) (pc1 := 70) (pc := 67) k_M_reads_67 rfl rfl (by decide) ?_
          | refine T_goto (tgt := 24) (pc := 70) k_M_reads_70 rfl ?_
          | refine T_ldc (v := (-1000000005)) (pc1 := 75) (pc := 73) k_M_reads_73 rfl c_M_103 ?_
          | refine T_retI (pc := 75) k_M_reads_75 rfl (by first | rfl | decide | assumption) ?_)
        all_goals first | exact loop z 0 _ (by omega) rfl | (exfalso; exact hw hs)
  · rw [reads_bad hs] at kk
    repeat' (first
      | refine T_iload_n (pc1 := 1) (pc := 0) k_M_reads_0 rfl rfl ?_
      | (refine T_cS (As := [_]) (d1 := 2) (pc1 := 4) (pc := 1) k_M_reads_1 rfl (by decide) (Nat.le_of_ble_eq_true rfl) rfl o_M_isSheet l_M_193 rfl (c_M_isSheet (fun hw => ?_) (fun hw => ?_)) <;> try dsimp only [psh])
      | (with_reducible refine T_if_neN (tgt := 10) (pc1 := 7) (pc := 4) k_M_reads_4 (by decide) (by decide) (by omega) (fun hc => ?_) (fun hc => ?_) <;> first | (exfalso; omega) | skip)
      | refine T_if_ne_t (tgt := 10) (pc := 4) k_M_reads_4 rfl (by decide) ?_
      | refine T_if_ne_f (tgt := 10) (pc1 := 7) (pc := 4) k_M_reads_4 rfl rfl (by decide) ?_
      | refine T_if_ne (tgt := 10) (pc1 := 7) (pc := 4) k_M_reads_4 rfl rfl (fun hc => ?_) (fun hc => ?_)
      | refine T_ldc (v := (-1000000001)) (pc1 := 9) (pc := 7) k_M_reads_7 rfl c_M_111 ?_
      | refine T_retI (pc := 9) k_M_reads_9 rfl (by first | rfl | decide | assumption) ?_)
    all_goals first | exact kk _ rfl | (exfalso; exact hs (by assumption))
end M15
