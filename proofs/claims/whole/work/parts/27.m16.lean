/-! The model: copy, slots. -/
section M16
variable {g : Geo} {I : IM} {K : Option Value → Geo → IM → Prop}
set_option maxHeartbeats 4000000 in
theorem c_M_copy {So Si Pl : Row} {f p t a m : Int32} (G : GeoOK g) (hSo : I 114 = So) (hSi : I 115 = Si) (hPl : I 116 = Pl) (oks : okS So Si) (kk : ∀ J r, eqx [116, 117] I J → J 116 = copyP So Si Pl f p t a m → r = copyA So Si f p t a m → K (some (.int r)) g J) : Cl 3 M_M_copy [.ref 101, .int f, .int p, .int t, .int a, .int m] g I K := by
  show Rl 3 M_M_copy 0 [some (.ref 101), some (.int f), some (.int p), some (.int t), some (.int a), some (.int m), none] [] g I K
  have e0 : (0 : Int32).toInt = 0 := rfl
  by_cases hs : rg 4 f ∧ rg 4 t
  · obtain ⟨j, hj, rfl⟩ := rg_of hs.1 (by omega)
    obtain ⟨k, hk, rfl⟩ := rg_of hs.2 (by omega)
    have c1 := hs.1
    have c2 := hs.2
    by_cases hno : So j = -1 ∨ So k = -1
    · obtain ⟨kA, kP⟩ := copy_no (So := So) (Si := Si) (Pl := Pl) (p := p) (a := a) (m := m) hj hk hno
      rw [kA, kP] at kk
      have kk := kk I _ eqx_rf hPl rfl
      rcases oks j hj with ⟨h1, h2⟩ | ⟨h1, z, hz, h2⟩
      · have hx := h1
        repeat' (first
          | refine T_iload_n (pc1 := 1) (pc := 0) k_M_copy_0 rfl rfl ?_
          | (refine T_cS (As := [_]) (d1 := 2) (pc1 := 4) (pc := 1) k_M_copy_1 rfl (by decide) (Nat.le_of_ble_eq_true rfl) rfl o_M_isSheet l_M_193 rfl (c_M_isSheet (fun hw => ?_) (fun hw => ?_)) <;> try dsimp only [psh])
          | (with_reducible refine T_if_eqN (tgt := 14) (pc1 := 7) (pc := 4) k_M_copy_4 (by decide) (by decide) (by omega) (fun hc => ?_) (fun hc => ?_) <;> first | (exfalso; omega) | skip)
          | refine T_if_eq_t (tgt := 14) (pc := 4) k_M_copy_4 rfl (by decide) ?_
          | refine T_if_eq_f (tgt := 14) (pc1 := 7) (pc := 4) k_M_copy_4 rfl rfl (by decide) ?_
          | refine T_if_eq (tgt := 14) (pc1 := 7) (pc := 4) k_M_copy_4 rfl rfl (fun hc => ?_) (fun hc => ?_)
          | refine T_iload_n (pc1 := 8) (pc := 7) k_M_copy_7 rfl rfl ?_
          | (refine T_cS (As := [_]) (d1 := 2) (pc1 := 11) (pc := 8) k_M_copy_8 rfl (by decide) (Nat.le_of_ble_eq_true rfl) rfl o_M_isSheet l_M_193 rfl (c_M_isSheet (fun hw => ?_) (fun hw => ?_)) <;> try dsimp only [psh])
          | (with_reducible refine T_if_neN (tgt := 17) (pc1 := 14) (pc := 11) k_M_copy_11 (by decide) (by decide) (by omega) (fun hc => ?_) (fun hc => ?_) <;> first | (exfalso; omega) | skip)
          | refine T_if_ne_t (tgt := 17) (pc := 11) k_M_copy_11 rfl (by decide) ?_
          | refine T_if_ne_f (tgt := 17) (pc1 := 14) (pc := 11) k_M_copy_11 rfl rfl (by decide) ?_
          | refine T_if_ne (tgt := 17) (pc1 := 14) (pc := 11) k_M_copy_11 rfl rfl (fun hc => ?_) (fun hc => ?_)
          | refine T_ldc (v := (-1000000001)) (pc1 := 16) (pc := 14) k_M_copy_14 rfl c_M_111 ?_
          | refine T_retI (pc := 16) k_M_copy_16 rfl (by first | rfl | decide | assumption) ?_
          | refine T_aload_n (pc1 := 18) (pc := 17) k_M_copy_17 rfl rfl ?_
          | refine T_aload_nN (pc1 := 18) (pc := 17) k_M_copy_17 rfl rfl ?_
          | refine T_getR (pc1 := 21) (pc := 18) k_M_copy_18 rfl f_M_61 rfl (by first | exact ga G (by decide) rfl | assumption) (by first | exact gr G (by decide) rfl | assumption) ?_
          | refine T_iload_n (pc1 := 22) (pc := 21) k_M_copy_21 rfl rfl ?_
          | refine T_ialdN (pc1 := 23) (pc := 22) k_M_copy_22 rfl (by first | exact ga G (by decide) rfl | assumption) (by omega) (by omega) (by first | assumption | (simp (disch := omega) only [pI_eq, pI_row, pI_col, va_up_self, va_up_ne, ne_eq, not_false_eq_true, hSo, h1] <;> rfl) | rfl) ?_
          | refine T_iald (pc1 := 23) (pc := 22) k_M_copy_22 rfl (by first | exact ga G (by decide) rfl | assumption) (by assumption) ?_
          | (with_reducible refine T_if_ltN (tgt := 35) (pc1 := 26) (pc := 23) k_M_copy_23 (by decide) (by decide) (by omega) ?_ <;> first | (exfalso; omega) | skip)
          | refine T_if_lt_t (tgt := 35) (pc := 23) k_M_copy_23 rfl (by decide) ?_
          | refine T_if_lt_f (tgt := 35) (pc1 := 26) (pc := 23) k_M_copy_23 rfl rfl (by decide) ?_
          | refine T_if_lt (tgt := 35) (pc1 := 26) (pc := 23) k_M_copy_23 rfl rfl (fun hc => ?_) (fun hc => ?_)
          | refine T_aload_n (pc1 := 27) (pc := 26) k_M_copy_26 rfl rfl ?_
          | refine T_aload_nN (pc1 := 27) (pc := 26) k_M_copy_26 rfl rfl ?_
          | refine T_getR (pc1 := 30) (pc := 27) k_M_copy_27 rfl f_M_61 rfl (by first | exact ga G (by decide) rfl | assumption) (by first | exact gr G (by decide) rfl | assumption) ?_
          | refine T_iload_n (pc1 := 31) (pc := 30) k_M_copy_30 rfl rfl ?_
          | refine T_ialdN (pc1 := 32) (pc := 31) k_M_copy_31 rfl (by first | exact ga G (by decide) rfl | assumption) (by omega) (by omega) (by first | assumption | (simp (disch := omega) only [pI_eq, pI_row, pI_col, va_up_self, va_up_ne, ne_eq, not_false_eq_true, hSo, h1] <;> rfl) | rfl) ?_
          | refine T_iald (pc1 := 32) (pc := 31) k_M_copy_31 rfl (by first | exact ga G (by decide) rfl | assumption) (by assumption) ?_
          | (with_reducible refine T_if_geN (tgt := 38) (pc1 := 35) (pc := 32) k_M_copy_32 (by decide) (by decide) (by omega) ?_ <;> first | (exfalso; omega) | skip)
          | refine T_if_ge_t (tgt := 38) (pc := 32) k_M_copy_32 rfl (by decide) ?_
          | refine T_if_ge_f (tgt := 38) (pc1 := 35) (pc := 32) k_M_copy_32 rfl rfl (by decide) ?_
          | refine T_if_ge (tgt := 38) (pc1 := 35) (pc := 32) k_M_copy_32 rfl rfl (fun hc => ?_) (fun hc => ?_)
          | refine T_ldc (v := (-1000000011)) (pc1 := 37) (pc := 35) k_M_copy_35 rfl c_M_196 ?_
          | refine T_retI (pc := 37) k_M_copy_37 rfl (by first | rfl | decide | assumption) ?_)
        all_goals first | exact kk | contradiction
      · have hk1 : So k = -1 := by
          rcases hno with h | h
          · rcases h1 with h1 | h1 <;> rw [h1] at h <;> exact absurd h (by decide)
          · exact h
        rcases h1 with h1 | h1
        all_goals
          repeat' (first
            | refine T_iload_n (pc1 := 1) (pc := 0) k_M_copy_0 rfl rfl ?_
            | (refine T_cS (As := [_]) (d1 := 2) (pc1 := 4) (pc := 1) k_M_copy_1 rfl (by decide) (Nat.le_of_ble_eq_true rfl) rfl o_M_isSheet l_M_193 rfl (c_M_isSheet (fun hw => ?_) (fun hw => ?_)) <;> try dsimp only [psh])
            | (with_reducible refine T_if_eqN (tgt := 14) (pc1 := 7) (pc := 4) k_M_copy_4 (by decide) (by decide) (by omega) (fun hc => ?_) (fun hc => ?_) <;> first | (exfalso; omega) | skip)
            | refine T_if_eq_t (tgt := 14) (pc := 4) k_M_copy_4 rfl (by decide) ?_
            | refine T_if_eq_f (tgt := 14) (pc1 := 7) (pc := 4) k_M_copy_4 rfl rfl (by decide) ?_
            | refine T_if_eq (tgt := 14) (pc1 := 7) (pc := 4) k_M_copy_4 rfl rfl (fun hc => ?_) (fun hc => ?_)
            | refine T_iload_n (pc1 := 8) (pc := 7) k_M_copy_7 rfl rfl ?_
            | (refine T_cS (As := [_]) (d1 := 2) (pc1 := 11) (pc := 8) k_M_copy_8 rfl (by decide) (Nat.le_of_ble_eq_true rfl) rfl o_M_isSheet l_M_193 rfl (c_M_isSheet (fun hw => ?_) (fun hw => ?_)) <;> try dsimp only [psh])
            | (with_reducible refine T_if_neN (tgt := 17) (pc1 := 14) (pc := 11) k_M_copy_11 (by decide) (by decide) (by omega) (fun hc => ?_) (fun hc => ?_) <;> first | (exfalso; omega) | skip)
            | refine T_if_ne_t (tgt := 17) (pc := 11) k_M_copy_11 rfl (by decide) ?_
            | refine T_if_ne_f (tgt := 17) (pc1 := 14) (pc := 11) k_M_copy_11 rfl rfl (by decide) ?_
            | refine T_if_ne (tgt := 17) (pc1 := 14) (pc := 11) k_M_copy_11 rfl rfl (fun hc => ?_) (fun hc => ?_)
            | refine T_ldc (v := (-1000000001)) (pc1 := 16) (pc := 14) k_M_copy_14 rfl c_M_111 ?_
            | refine T_retI (pc := 16) k_M_copy_16 rfl (by first | rfl | decide | assumption) ?_
            | refine T_aload_n (pc1 := 18) (pc := 17) k_M_copy_17 rfl rfl ?_
            | refine T_aload_nN (pc1 := 18) (pc := 17) k_M_copy_17 rfl rfl ?_
            | refine T_getR (pc1 := 21) (pc := 18) k_M_copy_18 rfl f_M_61 rfl (by first | exact ga G (by decide) rfl | assumption) (by first | exact gr G (by decide) rfl | assumption) ?_
            | refine T_iload_n (pc1 := 22) (pc := 21) k_M_copy_21 rfl rfl ?_
            | refine T_ialdN (pc1 := 23) (pc := 22) k_M_copy_22 rfl (by first | exact ga G (by decide) rfl | assumption) (by omega) (by omega) (by first | assumption | (simp (disch := omega) only [pI_eq, pI_row, pI_col, va_up_self, va_up_ne, ne_eq, not_false_eq_true, hSo, h1, hk1] <;> rfl) | rfl) ?_
            | refine T_iald (pc1 := 23) (pc := 22) k_M_copy_22 rfl (by first | exact ga G (by decide) rfl | assumption) (by assumption) ?_
            | (with_reducible refine T_if_ltN (tgt := 35) (pc1 := 26) (pc := 23) k_M_copy_23 (by decide) (by decide) (by omega) ?_ <;> first | (exfalso; omega) | skip)
            | refine T_if_lt_t (tgt := 35) (pc := 23) k_M_copy_23 rfl (by decide) ?_
            | refine T_if_lt_f (tgt := 35) (pc1 := 26) (pc := 23) k_M_copy_23 rfl rfl (by decide) ?_
            | refine T_if_lt (tgt := 35) (pc1 := 26) (pc := 23) k_M_copy_23 rfl rfl (fun hc => ?_) (fun hc => ?_)
            | refine T_aload_n (pc1 := 27) (pc := 26) k_M_copy_26 rfl rfl ?_
            | refine T_aload_nN (pc1 := 27) (pc := 26) k_M_copy_26 rfl rfl ?_
            | refine T_getR (pc1 := 30) (pc := 27) k_M_copy_27 rfl f_M_61 rfl (by first | exact ga G (by decide) rfl | assumption) (by first | exact gr G (by decide) rfl | assumption) ?_
            | refine T_iload_n (pc1 := 31) (pc := 30) k_M_copy_30 rfl rfl ?_
            | refine T_ialdN (pc1 := 32) (pc := 31) k_M_copy_31 rfl (by first | exact ga G (by decide) rfl | assumption) (by omega) (by omega) (by first | assumption | (simp (disch := omega) only [pI_eq, pI_row, pI_col, va_up_self, va_up_ne, ne_eq, not_false_eq_true, hSo, h1, hk1] <;> rfl) | rfl) ?_
            | refine T_iald (pc1 := 32) (pc := 31) k_M_copy_31 rfl (by first | exact ga G (by decide) rfl | assumption) (by assumption) ?_
            | (with_reducible refine T_if_geN (tgt := 38) (pc1 := 35) (pc := 32) k_M_copy_32 (by decide) (by decide) (by omega) ?_ <;> first | (exfalso; omega) | skip)
            | refine T_if_ge_t (tgt := 38) (pc := 32) k_M_copy_32 rfl (by decide) ?_
            | refine T_if_ge_f (tgt := 38) (pc1 := 35) (pc := 32) k_M_copy_32 rfl rfl (by decide) ?_
            | refine T_if_ge (tgt := 38) (pc1 := 35) (pc := 32) k_M_copy_32 rfl rfl (fun hc => ?_) (fun hc => ?_)
            | refine T_ldc (v := (-1000000011)) (pc1 := 37) (pc := 35) k_M_copy_35 rfl c_M_196 ?_
            | refine T_retI (pc := 37) k_M_copy_37 rfl (by first | rfl | decide | assumption) ?_)
          all_goals first | exact kk | contradiction
    · obtain ⟨h1, z, hz, h2⟩ := (oks j hj).resolve_left (fun q => hno (Or.inl q.1))
      obtain ⟨h3, y, hy, h4⟩ := (oks k hk).resolve_left (fun q => hno (Or.inr q.1))
      by_cases hkd : So j = So k
      · by_cases hr : okRow Si j p m ∧ okRow Si k a m
        · obtain ⟨kA, kP⟩ := copy_ok (So := So) (Si := Si) (Pl := Pl) hj hk hno hkd hr
          rw [kA, kP] at kk
          have ez := nI_toInt (n := z) (by omega)
          have ey := nI_toInt (n := y) (by omega)
          rw [okRow, okRow, h2, h4, ez, ey] at hr
          obtain ⟨⟨r1, r2, r3⟩, r4, -, r5⟩ := hr
          obtain ⟨p, hp, rfl⟩ := rg_of (n := 25) (v := p) ⟨by omega, by omega⟩ (by omega)
          obtain ⟨a, ha, rfl⟩ := rg_of (n := 25) (v := a) ⟨by omega, by omega⟩ (by omega)
          obtain ⟨m, hm, rfl⟩ := rg_of (n := 25) (v := m) ⟨by omega, by omega⟩ (by omega)
          have ep := nI_toInt (n := p) (by omega)
          have ea := nI_toInt (n := a) (by omega)
          have em := nI_toInt (n := m) (by omega)
          rw [nI_clamp (by omega), nI_clamp (by omega), nI_clamp (by omega)] at kk
          have l1 : lg_cmp ((nI p).toInt64 + (nI m).toInt64) (nI z).toInt64 ≤ 0 := lcmp_le.mpr (by omega)
          have l2 : lg_cmp ((nI a).toInt64 + (nI m).toInt64) (nI y).toInt64 ≤ 0 := lcmp_le.mpr (by omega)
          have loop2 : ∀ q i (J : IM), i + q = m → eqx [116, 117] I J → (∀ x, x < m → J 117 x = Pl (24 * j + p + x)) → J 116 = va_cpy Pl Pl (24 * j + p) (24 * k + a) i → Rl 3 M_M_copy 149 [some (.ref 101), some (.int (nI j)), some (.int (nI p)), some (.int (nI k)), some (.int (nI a)), some (.int (nI m)), some (.int (nI i))] [] g J K := by
            intro q
            induction q with
            | zero =>
              intro i J hi hJ h117 h116
              have hi : i = m := by omega
              subst hi
              repeat' (first
                | refine T_iload_n (pc1 := 1) (pc := 0) k_M_copy_0 rfl rfl ?_
                | (refine T_cS (As := [_]) (d1 := 2) (pc1 := 4) (pc := 1) k_M_copy_1 rfl (by decide) (Nat.le_of_ble_eq_true rfl) rfl o_M_isSheet l_M_193 rfl (c_M_isSheet (fun hw => ?_) (fun hw => ?_)) <;> try dsimp only [psh])
                | (with_reducible refine T_if_eqN (tgt := 14) (pc1 := 7) (pc := 4) k_M_copy_4 (by decide) (by decide) (by omega) (fun hc => ?_) (fun hc => ?_) <;> first | (exfalso; omega) | skip)
                | refine T_if_eq_t (tgt := 14) (pc := 4) k_M_copy_4 rfl (by decide) ?_
                | refine T_if_eq_f (tgt := 14) (pc1 := 7) (pc := 4) k_M_copy_4 rfl rfl (by decide) ?_
                | refine T_if_eq (tgt := 14) (pc1 := 7) (pc := 4) k_M_copy_4 rfl rfl (fun hc => ?_) (fun hc => ?_)
                | refine T_iload_n (pc1 := 8) (pc := 7) k_M_copy_7 rfl rfl ?_
                | (refine T_cS (As := [_]) (d1 := 2) (pc1 := 11) (pc := 8) k_M_copy_8 rfl (by decide) (Nat.le_of_ble_eq_true rfl) rfl o_M_isSheet l_M_193 rfl (c_M_isSheet (fun hw => ?_) (fun hw => ?_)) <;> try dsimp only [psh])
                | (with_reducible refine T_if_neN (tgt := 17) (pc1 := 14) (pc := 11) k_M_copy_11 (by decide) (by decide) (by omega) (fun hc => ?_) (fun hc => ?_) <;> first | (exfalso; omega) | skip)
                | refine T_if_ne_t (tgt := 17) (pc := 11) k_M_copy_11 rfl (by decide) ?_
                | refine T_if_ne_f (tgt := 17) (pc1 := 14) (pc := 11) k_M_copy_11 rfl rfl (by decide) ?_
                | refine T_if_ne (tgt := 17) (pc1 := 14) (pc := 11) k_M_copy_11 rfl rfl (fun hc => ?_) (fun hc => ?_)
                | refine T_ldc (v := (-1000000001)) (pc1 := 16) (pc := 14) k_M_copy_14 rfl c_M_111 ?_
                | refine T_retI (pc := 16) k_M_copy_16 rfl (by first | rfl | decide | assumption) ?_
                | refine T_aload_n (pc1 := 18) (pc := 17) k_M_copy_17 rfl rfl ?_
                | refine T_aload_nN (pc1 := 18) (pc := 17) k_M_copy_17 rfl rfl ?_
                | refine T_getR (pc1 := 21) (pc := 18) k_M_copy_18 rfl f_M_61 rfl (by first | exact ga G (by decide) rfl | assumption) (by first | exact gr G (by decide) rfl | assumption) ?_
                | refine T_iload_n (pc1 := 22) (pc := 21) k_M_copy_21 rfl rfl ?_
                | refine T_ialdN (pc1 := 23) (pc := 22) k_M_copy_22 rfl (by first | exact ga G (by decide) rfl | assumption) (by omega) (by omega) (by first | assumption | (simp (disch := omega) only [pI_eq, pI_row, pI_col, va_up_self, va_up_ne, ne_eq, not_false_eq_true, hSo, h1, hk1] <;> rfl) | rfl) ?_
                | refine T_iald (pc1 := 23) (pc := 22) k_M_copy_22 rfl (by first | exact ga G (by decide) rfl | assumption) (by assumption) ?_
                | (with_reducible refine T_if_ltN (tgt := 35) (pc1 := 26) (pc := 23) k_M_copy_23 (by decide) (by decide) (by omega) ?_ <;> first | (exfalso; omega) | skip)
                | refine T_if_lt_t (tgt := 35) (pc := 23) k_M_copy_23 rfl (by decide) ?_
                | refine T_if_lt_f (tgt := 35) (pc1 := 26) (pc := 23) k_M_copy_23 rfl rfl (by decide) ?_
                | refine T_if_lt (tgt := 35) (pc1 := 26) (pc := 23) k_M_copy_23 rfl rfl (fun hc => ?_) (fun hc => ?_)
                | refine T_aload_n (pc1 := 27) (pc := 26) k_M_copy_26 rfl rfl ?_
                | refine T_aload_nN (pc1 := 27) (pc := 26) k_M_copy_26 rfl rfl ?_
                | refine T_getR (pc1 := 30) (pc := 27) k_M_copy_27 rfl f_M_61 rfl (by first | exact ga G (by decide) rfl | assumption) (by first | exact gr G (by decide) rfl | assumption) ?_
                | refine T_iload_n (pc1 := 31) (pc := 30) k_M_copy_30 rfl rfl ?_
                | refine T_ialdN (pc1 := 32) (pc := 31) k_M_copy_31 rfl (by first | exact ga G (by decide) rfl | assumption) (by omega) (by omega) (by first | assumption | (simp (disch := omega) only [pI_eq, pI_row, pI_col, va_up_self, va_up_ne, ne_eq, not_false_eq_true, hSo, h1, hk1] <;> rfl) | rfl) ?_
                | refine T_iald (pc1 := 32) (pc := 31) k_M_copy_31 rfl (by first | exact ga G (by decide) rfl | assumption) (by assumption) ?_
                | (with_reducible refine T_if_geN (tgt := 38) (pc1 := 35) (pc := 32) k_M_copy_32 (by decide) (by decide) (by omega) ?_ <;> first | (exfalso; omega) | skip)
                | refine T_if_ge_t (tgt := 38) (pc := 32) k_M_copy_32 rfl (by decide) ?_
                | refine T_if_ge_f (tgt := 38) (pc1 := 35) (pc := 32) k_M_copy_32 rfl rfl (by decide) ?_
                | refine T_if_ge (tgt := 38) (pc1 := 35) (pc := 32) k_M_copy_32 rfl rfl (fun hc => ?_) (fun hc => ?_)
                | refine T_ldc (v := (-1000000011)) (pc1 := 37) (pc := 35) k_M_copy_35 rfl c_M_196 ?_
                | refine T_retI (pc := 37) k_M_copy_37 rfl (by first | rfl | decide | assumption) ?_
                | refine T_aload_n (pc1 := 39) (pc := 38) k_M_copy_38 rfl rfl ?_
                | refine T_aload_nN (pc1 := 39) (pc := 38) k_M_copy_38 rfl rfl ?_
                | refine T_getR (pc1 := 42) (pc := 39) k_M_copy_39 rfl f_M_61 rfl (by first | exact ga G (by decide) rfl | assumption) (by first | exact gr G (by decide) rfl | assumption) ?_
                | refine T_iload_n (pc1 := 43) (pc := 42) k_M_copy_42 rfl rfl ?_
                | refine T_ialdN (pc1 := 44) (pc := 43) k_M_copy_43 rfl (by first | exact ga G (by decide) rfl | assumption) (by omega) (by omega) (by first | assumption | (simp (disch := omega) only [pI_eq, pI_row, pI_col, va_up_self, va_up_ne, ne_eq, not_false_eq_true, hSo, h1, hk1] <;> rfl) | rfl) ?_
                | refine T_iald (pc1 := 44) (pc := 43) k_M_copy_43 rfl (by first | exact ga G (by decide) rfl | assumption) (by assumption) ?_
                | refine T_aload_n (pc1 := 45) (pc := 44) k_M_copy_44 rfl rfl ?_
                | refine T_aload_nN (pc1 := 45) (pc := 44) k_M_copy_44 rfl rfl ?_
                | refine T_getR (pc1 := 48) (pc := 45) k_M_copy_45 rfl f_M_61 rfl (by first | exact ga G (by decide) rfl | assumption) (by first | exact gr G (by decide) rfl | assumption) ?_
                | refine T_iload_n (pc1 := 49) (pc := 48) k_M_copy_48 rfl rfl ?_
                | refine T_ialdN (pc1 := 50) (pc := 49) k_M_copy_49 rfl (by first | exact ga G (by decide) rfl | assumption) (by omega) (by omega) (by first | assumption | (simp (disch := omega) only [pI_eq, pI_row, pI_col, va_up_self, va_up_ne, ne_eq, not_false_eq_true, hSo, h1, hk1] <;> rfl) | rfl) ?_
                | refine T_iald (pc1 := 50) (pc := 49) k_M_copy_49 rfl (by first | exact ga G (by decide) rfl | assumption) (by assumption) ?_
                | (with_reducible refine T_icmp_eqN (tgt := 56) (pc1 := 53) (pc := 50) k_M_copy_50 (by decide) (by decide) (by omega) (by omega) (fun hc => ?_) (fun hc => ?_) <;> first | (exfalso; omega) | skip)
                | refine T_icmp_eq_t (tgt := 56) (pc := 50) k_M_copy_50 rfl (by decide) ?_
                | refine T_icmp_eq_f (tgt := 56) (pc1 := 53) (pc := 50) k_M_copy_50 rfl rfl (by decide) ?_
                | refine T_icmp_eq (tgt := 56) (pc1 := 53) (pc := 50) k_M_copy_50 rfl rfl (fun hc => ?_) (fun hc => ?_)
                | refine T_ldc (v := (-1000000012)) (pc1 := 55) (pc := 53) k_M_copy_53 rfl c_M_155 ?_
                | refine T_retI (pc := 55) k_M_copy_55 rfl (by first | rfl | decide | assumption) ?_
                | refine T_iload_n (pc1 := 57) (pc := 56) k_M_copy_56 rfl rfl ?_
                | (with_reducible refine T_if_ltN (tgt := 105) (pc1 := 60) (pc := 57) k_M_copy_57 (by decide) (by decide) (by omega) ?_ <;> first | (exfalso; omega) | skip)
                | refine T_if_lt_t (tgt := 105) (pc := 57) k_M_copy_57 rfl (by decide) ?_
                | refine T_if_lt_f (tgt := 105) (pc1 := 60) (pc := 57) k_M_copy_57 rfl rfl (by decide) ?_
                | refine T_if_lt (tgt := 105) (pc1 := 60) (pc := 57) k_M_copy_57 rfl rfl (fun hc => ?_) (fun hc => ?_)
                | refine T_iload (pc1 := 62) (pc := 60) k_M_copy_60 rfl rfl ?_
                | (with_reducible refine T_if_ltN (tgt := 105) (pc1 := 65) (pc := 62) k_M_copy_62 (by decide) (by decide) (by omega) ?_ <;> first | (exfalso; omega) | skip)
                | refine T_if_lt_t (tgt := 105) (pc := 62) k_M_copy_62 rfl (by decide) ?_
                | refine T_if_lt_f (tgt := 105) (pc1 := 65) (pc := 62) k_M_copy_62 rfl rfl (by decide) ?_
                | refine T_if_lt (tgt := 105) (pc1 := 65) (pc := 62) k_M_copy_62 rfl rfl (fun hc => ?_) (fun hc => ?_)
                | refine T_iload (pc1 := 67) (pc := 65) k_M_copy_65 rfl rfl ?_
                | (with_reducible refine T_if_ltN (tgt := 105) (pc1 := 70) (pc := 67) k_M_copy_67 (by decide) (by decide) (by omega) ?_ <;> first | (exfalso; omega) | skip)
                | refine T_if_lt_t (tgt := 105) (pc := 67) k_M_copy_67 rfl (by decide) ?_
                | refine T_if_lt_f (tgt := 105) (pc1 := 70) (pc := 67) k_M_copy_67 rfl rfl (by decide) ?_
                | refine T_if_lt (tgt := 105) (pc1 := 70) (pc := 67) k_M_copy_67 rfl rfl (fun hc => ?_) (fun hc => ?_)
                | refine T_iload_n (pc1 := 71) (pc := 70) k_M_copy_70 rfl rfl ?_
                | refine T_i2l (pc1 := 72) (pc := 71) k_M_copy_71 rfl ?_
                | refine T_iload (pc1 := 74) (pc := 72) k_M_copy_72 rfl rfl ?_
                | refine T_i2l (pc1 := 75) (pc := 74) k_M_copy_74 rfl ?_
                | refine T_ladd (pc1 := 76) (pc := 75) k_M_copy_75 rfl ?_
                | refine T_aload_n (pc1 := 77) (pc := 76) k_M_copy_76 rfl rfl ?_
                | refine T_aload_nN (pc1 := 77) (pc := 76) k_M_copy_76 rfl rfl ?_
                | refine T_getR (pc1 := 80) (pc := 77) k_M_copy_77 rfl f_M_64 rfl (by first | exact ga G (by decide) rfl | assumption) (by first | exact gr G (by decide) rfl | assumption) ?_
                | refine T_iload_n (pc1 := 81) (pc := 80) k_M_copy_80 rfl rfl ?_
                | refine T_ialdN (pc1 := 82) (pc := 81) k_M_copy_81 rfl (by first | exact ga G (by decide) rfl | assumption) (by omega) (by omega) (by first | assumption | (simp (disch := omega) only [pI_eq, pI_row, pI_col, va_up_self, va_up_ne, ne_eq, not_false_eq_true, hSo, h1, hk1] <;> rfl) | rfl) ?_
                | refine T_iald (pc1 := 82) (pc := 81) k_M_copy_81 rfl (by first | exact ga G (by decide) rfl | assumption) (by assumption) ?_
                | refine T_i2l (pc1 := 83) (pc := 82) k_M_copy_82 rfl ?_
                | refine T_lcmp (pc1 := 84) (pc := 83) k_M_copy_83 rfl ?_
                | (with_reducible refine T_if_gtN (tgt := 105) (pc1 := 87) (pc := 84) k_M_copy_84 (by decide) (by decide) (by omega) (fun hc => ?_) (fun hc => ?_) <;> first | (exfalso; omega) | skip)
                | refine T_if_gt_t (tgt := 105) (pc := 84) k_M_copy_84 rfl (by decide) ?_
                | refine T_if_gt_f (tgt := 105) (pc1 := 87) (pc := 84) k_M_copy_84 rfl rfl (by decide) ?_
                | refine T_if_gt (tgt := 105) (pc1 := 87) (pc := 84) k_M_copy_84 rfl rfl (fun hc => ?_) (fun hc => ?_)
                | refine T_iload (pc1 := 89) (pc := 87) k_M_copy_87 rfl rfl ?_
                | refine T_i2l (pc1 := 90) (pc := 89) k_M_copy_89 rfl ?_
                | refine T_iload (pc1 := 92) (pc := 90) k_M_copy_90 rfl rfl ?_
                | refine T_i2l (pc1 := 93) (pc := 92) k_M_copy_92 rfl ?_
                | refine T_ladd (pc1 := 94) (pc := 93) k_M_copy_93 rfl ?_
                | refine T_aload_n (pc1 := 95) (pc := 94) k_M_copy_94 rfl rfl ?_
                | refine T_aload_nN (pc1 := 95) (pc := 94) k_M_copy_94 rfl rfl ?_
                | refine T_getR (pc1 := 98) (pc := 95) k_M_copy_95 rfl f_M_64 rfl (by first | exact ga G (by decide) rfl | assumption) (by first | exact gr G (by decide) rfl | assumption) ?_
                | refine T_iload_n (pc1 := 99) (pc := 98) k_M_copy_98 rfl rfl ?_
                | refine T_ialdN (pc1 := 100) (pc := 99) k_M_copy_99 rfl (by first | exact ga G (by decide) rfl | assumption) (by omega) (by omega) (by first | assumption | (simp (disch := omega) only [pI_eq, pI_row, pI_col, va_up_self, va_up_ne, ne_eq, not_false_eq_true, hSo, h1, hk1] <;> rfl) | rfl) ?_
                | refine T_iald (pc1 := 100) (pc := 99) k_M_copy_99 rfl (by first | exact ga G (by decide) rfl | assumption) (by assumption) ?_
                | refine T_i2l (pc1 := 101) (pc := 100) k_M_copy_100 rfl ?_
                | refine T_lcmp (pc1 := 102) (pc := 101) k_M_copy_101 rfl ?_
                | (with_reducible refine T_if_leN (tgt := 109) (pc1 := 105) (pc := 102) k_M_copy_102 (by decide) (by decide) (by omega) (fun hc => ?_) (fun hc => ?_) <;> first | (exfalso; omega) | skip)
                | refine T_if_le_t (tgt := 109) (pc := 102) k_M_copy_102 rfl (by decide) ?_
                | refine T_if_le_f (tgt := 109) (pc1 := 105) (pc := 102) k_M_copy_102 rfl rfl (by decide) ?_
                | refine T_if_le (tgt := 109) (pc1 := 105) (pc := 102) k_M_copy_102 rfl rfl (fun hc => ?_) (fun hc => ?_)
                | refine T_ldcw (v := (-1000000013)) (pc1 := 108) (pc := 105) k_M_copy_105 rfl c_M_297 ?_
                | refine T_retI (pc := 108) k_M_copy_108 rfl (by first | rfl | decide | assumption) ?_
                | refine T_iconst (v := (nI 0)) (pc1 := 110) (pc := 109) k_M_copy_109 rfl (by decide) ?_
                | refine T_istore (pc1 := 112) (pc := 110) k_M_copy_110 rfl (Nat.le_of_ble_eq_true rfl) ?_
                | refine T_iload (pc1 := 114) (pc := 112) k_M_copy_112 rfl rfl ?_
                | refine T_iload (pc1 := 116) (pc := 114) k_M_copy_114 rfl rfl ?_
                | (with_reducible refine T_icmp_geN (tgt := 146) (pc1 := 119) (pc := 116) k_M_copy_116 (by decide) (by decide) (by omega) (by omega) (fun hc => ?_) (fun hc => ?_) <;> first | (exfalso; omega) | skip)
                | refine T_icmp_ge_t (tgt := 146) (pc := 116) k_M_copy_116 rfl (by decide) ?_
                | refine T_icmp_ge_f (tgt := 146) (pc1 := 119) (pc := 116) k_M_copy_116 rfl rfl (by decide) ?_
                | refine T_icmp_ge (tgt := 146) (pc1 := 119) (pc := 116) k_M_copy_116 rfl rfl (fun hc => ?_) (fun hc => ?_)
                | refine T_aload_n (pc1 := 120) (pc := 119) k_M_copy_119 rfl rfl ?_
                | refine T_aload_nN (pc1 := 120) (pc := 119) k_M_copy_119 rfl rfl ?_
                | refine T_getR (pc1 := 123) (pc := 120) k_M_copy_120 rfl f_M_70 rfl (by first | exact ga G (by decide) rfl | assumption) (by first | exact gr G (by decide) rfl | assumption) ?_
                | refine T_iload (pc1 := 125) (pc := 123) k_M_copy_123 rfl rfl ?_
                | refine T_aload_n (pc1 := 126) (pc := 125) k_M_copy_125 rfl rfl ?_
                | refine T_aload_nN (pc1 := 126) (pc := 125) k_M_copy_125 rfl rfl ?_
                | refine T_getR (pc1 := 129) (pc := 126) k_M_copy_126 rfl f_M_67 rfl (by first | exact ga G (by decide) rfl | assumption) (by first | exact gr G (by decide) rfl | assumption) ?_
                | refine T_bipush (v := (nI 24)) (pc1 := 131) (pc := 129) k_M_copy_129 rfl (by decide) ?_
                | refine T_iload_n (pc1 := 132) (pc := 131) k_M_copy_131 rfl rfl ?_
                | with_reducible refine T_imulN (pc1 := 133) (pc := 132) k_M_copy_132 (by decide) ?_
                | refine T_imul (pc1 := 133) (pc := 132) k_M_copy_132 rfl ?_
                | refine T_iload_n (pc1 := 134) (pc := 133) k_M_copy_133 rfl rfl ?_
                | with_reducible refine T_iaddN (pc1 := 135) (pc := 134) k_M_copy_134 (by decide) ?_
                | refine T_iadd (pc1 := 135) (pc := 134) k_M_copy_134 rfl ?_
                | refine T_iload (pc1 := 137) (pc := 135) k_M_copy_135 rfl rfl ?_
                | with_reducible refine T_iaddN (pc1 := 138) (pc := 137) k_M_copy_137 (by decide) ?_
                | refine T_iadd (pc1 := 138) (pc := 137) k_M_copy_137 rfl ?_
                | refine T_ialdN (pc1 := 139) (pc := 138) k_M_copy_138 rfl (by first | exact ga G (by decide) rfl | assumption) (by omega) (by omega) (by first | assumption | (simp (disch := omega) only [pI_eq, pI_row, pI_col, va_up_self, va_up_ne, ne_eq, not_false_eq_true, hSo, h1, hk1] <;> rfl) | rfl) ?_
                | refine T_iald (pc1 := 139) (pc := 138) k_M_copy_138 rfl (by first | exact ga G (by decide) rfl | assumption) (by assumption) ?_
                | refine T_iastN (pc1 := 140) (pc := 139) k_M_copy_139 rfl (by first | exact ga G (by decide) rfl | assumption) (by omega) (by omega) ?_
                | refine T_iincN (b := 1) (pc1 := 143) (pc := 140) k_M_copy_140 rfl rfl (by decide) ?_
                | refine T_iinc (v := (nI 1)) (pc1 := 143) (pc := 140) k_M_copy_140 rfl rfl (by decide) ?_
                | refine T_goto (tgt := 112) (pc := 143) k_M_copy_143 rfl ?_
                | refine T_iconst (v := (nI 0)) (pc1 := 147) (pc := 146) k_M_copy_146 rfl (by decide) ?_
                | refine T_istore (pc1 := 149) (pc := 147) k_M_copy_147 rfl (Nat.le_of_ble_eq_true rfl) ?_
                | refine T_iload (pc1 := 151) (pc := 149) k_M_copy_149 rfl rfl ?_
                | refine T_iload (pc1 := 153) (pc := 151) k_M_copy_151 rfl rfl ?_
                | (with_reducible refine T_icmp_geN (tgt := 184) (pc1 := 156) (pc := 153) k_M_copy_153 (by decide) (by decide) (by omega) (by omega) (fun hc => ?_) (fun hc => ?_) <;> first | (exfalso; omega) | skip)
                | refine T_icmp_ge_t (tgt := 184) (pc := 153) k_M_copy_153 rfl (by decide) ?_
                | refine T_icmp_ge_f (tgt := 184) (pc1 := 156) (pc := 153) k_M_copy_153 rfl rfl (by decide) ?_
                | refine T_icmp_ge (tgt := 184) (pc1 := 156) (pc := 153) k_M_copy_153 rfl rfl (fun hc => ?_) (fun hc => ?_)
                | refine T_aload_n (pc1 := 157) (pc := 156) k_M_copy_156 rfl rfl ?_
                | refine T_aload_nN (pc1 := 157) (pc := 156) k_M_copy_156 rfl rfl ?_
                | refine T_getR (pc1 := 160) (pc := 157) k_M_copy_157 rfl f_M_67 rfl (by first | exact ga G (by decide) rfl | assumption) (by first | exact gr G (by decide) rfl | assumption) ?_
                | refine T_bipush (v := (nI 24)) (pc1 := 162) (pc := 160) k_M_copy_160 rfl (by decide) ?_
                | refine T_iload_n (pc1 := 163) (pc := 162) k_M_copy_162 rfl rfl ?_
                | with_reducible refine T_imulN (pc1 := 164) (pc := 163) k_M_copy_163 (by decide) ?_
                | refine T_imul (pc1 := 164) (pc := 163) k_M_copy_163 rfl ?_
                | refine T_iload (pc1 := 166) (pc := 164) k_M_copy_164 rfl rfl ?_
                | with_reducible refine T_iaddN (pc1 := 167) (pc := 166) k_M_copy_166 (by decide) ?_
                | refine T_iadd (pc1 := 167) (pc := 166) k_M_copy_166 rfl ?_
                | refine T_iload (pc1 := 169) (pc := 167) k_M_copy_167 rfl rfl ?_
                | with_reducible refine T_iaddN (pc1 := 170) (pc := 169) k_M_copy_169 (by decide) ?_
                | refine T_iadd (pc1 := 170) (pc := 169) k_M_copy_169 rfl ?_
                | refine T_aload_n (pc1 := 171) (pc := 170) k_M_copy_170 rfl rfl ?_
                | refine T_aload_nN (pc1 := 171) (pc := 170) k_M_copy_170 rfl rfl ?_
                | refine T_getR (pc1 := 174) (pc := 171) k_M_copy_171 rfl f_M_70 rfl (by first | exact ga G (by decide) rfl | assumption) (by first | exact gr G (by decide) rfl | assumption) ?_
                | refine T_iload (pc1 := 176) (pc := 174) k_M_copy_174 rfl rfl ?_
                | refine T_ialdN (pc1 := 177) (pc := 176) k_M_copy_176 rfl (by first | exact ga G (by decide) rfl | assumption) (by omega) (by omega) (by first | assumption | (simp (disch := omega) only [pI_eq, pI_row, pI_col, va_up_self, va_up_ne, ne_eq, not_false_eq_true, hSo, h1, hk1] <;> rfl) | rfl) ?_
                | refine T_iald (pc1 := 177) (pc := 176) k_M_copy_176 rfl (by first | exact ga G (by decide) rfl | assumption) (by assumption) ?_
                | refine T_iastN (pc1 := 178) (pc := 177) k_M_copy_177 rfl (by first | exact ga G (by decide) rfl | assumption) (by omega) (by omega) ?_
                | refine T_iincN (b := 1) (pc1 := 181) (pc := 178) k_M_copy_178 rfl rfl (by decide) ?_
                | refine T_iinc (v := (nI 1)) (pc1 := 181) (pc := 178) k_M_copy_178 rfl rfl (by decide) ?_
                | refine T_goto (tgt := 149) (pc := 181) k_M_copy_181 rfl ?_
                | refine T_iload (pc1 := 186) (pc := 184) k_M_copy_184 rfl rfl ?_
                | refine T_retI (pc := 186) k_M_copy_186 rfl (by first | rfl | decide | assumption) ?_)
              exact kk J _ hJ h116 rfl
            | succ q ih =>
              intro i J hi hJ h117 h116
              have e := h117 i (by omega)
              refine T_iload (pc1 := 151) (pc := 149) k_M_copy_149 rfl rfl ?_
              repeat' (first
                | refine T_iload_n (pc1 := 1) (pc := 0) k_M_copy_0 rfl rfl ?_
                | (refine T_cS (As := [_]) (d1 := 2) (pc1 := 4) (pc := 1) k_M_copy_1 rfl (by decide) (Nat.le_of_ble_eq_true rfl) rfl o_M_isSheet l_M_193 rfl (c_M_isSheet (fun hw => ?_) (fun hw => ?_)) <;> try dsimp only [psh])
                | (with_reducible refine T_if_eqN (tgt := 14) (pc1 := 7) (pc := 4) k_M_copy_4 (by decide) (by decide) (by omega) (fun hc => ?_) (fun hc => ?_) <;> first | (exfalso; omega) | skip)
                | refine T_if_eq_t (tgt := 14) (pc := 4) k_M_copy_4 rfl (by decide) ?_
                | refine T_if_eq_f (tgt := 14) (pc1 := 7) (pc := 4) k_M_copy_4 rfl rfl (by decide) ?_
                | refine T_if_eq (tgt := 14) (pc1 := 7) (pc := 4) k_M_copy_4 rfl rfl (fun hc => ?_) (fun hc => ?_)
                | refine T_iload_n (pc1 := 8) (pc := 7) k_M_copy_7 rfl rfl ?_
                | (refine T_cS (As := [_]) (d1 := 2) (pc1 := 11) (pc := 8) k_M_copy_8 rfl (by decide) (Nat.le_of_ble_eq_true rfl) rfl o_M_isSheet l_M_193 rfl (c_M_isSheet (fun hw => ?_) (fun hw => ?_)) <;> try dsimp only [psh])
                | (with_reducible refine T_if_neN (tgt := 17) (pc1 := 14) (pc := 11) k_M_copy_11 (by decide) (by decide) (by omega) (fun hc => ?_) (fun hc => ?_) <;> first | (exfalso; omega) | skip)
                | refine T_if_ne_t (tgt := 17) (pc := 11) k_M_copy_11 rfl (by decide) ?_
                | refine T_if_ne_f (tgt := 17) (pc1 := 14) (pc := 11) k_M_copy_11 rfl rfl (by decide) ?_
                | refine T_if_ne (tgt := 17) (pc1 := 14) (pc := 11) k_M_copy_11 rfl rfl (fun hc => ?_) (fun hc => ?_)
                | refine T_ldc (v := (-1000000001)) (pc1 := 16) (pc := 14) k_M_copy_14 rfl c_M_111 ?_
                | refine T_retI (pc := 16) k_M_copy_16 rfl (by first | rfl | decide | assumption) ?_
                | refine T_aload_n (pc1 := 18) (pc := 17) k_M_copy_17 rfl rfl ?_
                | refine T_aload_nN (pc1 := 18) (pc := 17) k_M_copy_17 rfl rfl ?_
                | refine T_getR (pc1 := 21) (pc := 18) k_M_copy_18 rfl f_M_61 rfl (by first | exact ga G (by decide) rfl | assumption) (by first | exact gr G (by decide) rfl | assumption) ?_
                | refine T_iload_n (pc1 := 22) (pc := 21) k_M_copy_21 rfl rfl ?_
                | refine T_ialdN (pc1 := 23) (pc := 22) k_M_copy_22 rfl (by first | exact ga G (by decide) rfl | assumption) (by omega) (by omega) (by first | assumption | (simp (disch := omega) only [pI_eq, pI_row, pI_col, va_up_self, va_up_ne, ne_eq, not_false_eq_true, hSo, h1, hk1] <;> rfl) | rfl) ?_
                | refine T_iald (pc1 := 23) (pc := 22) k_M_copy_22 rfl (by first | exact ga G (by decide) rfl | assumption) (by assumption) ?_
                | (with_reducible refine T_if_ltN (tgt := 35) (pc1 := 26) (pc := 23) k_M_copy_23 (by decide) (by decide) (by omega) ?_ <;> first | (exfalso; omega) | skip)
                | refine T_if_lt_t (tgt := 35) (pc := 23) k_M_copy_23 rfl (by decide) ?_
                | refine T_if_lt_f (tgt := 35) (pc1 := 26) (pc := 23) k_M_copy_23 rfl rfl (by decide) ?_
                | refine T_if_lt (tgt := 35) (pc1 := 26) (pc := 23) k_M_copy_23 rfl rfl (fun hc => ?_) (fun hc => ?_)
                | refine T_aload_n (pc1 := 27) (pc := 26) k_M_copy_26 rfl rfl ?_
                | refine T_aload_nN (pc1 := 27) (pc := 26) k_M_copy_26 rfl rfl ?_
                | refine T_getR (pc1 := 30) (pc := 27) k_M_copy_27 rfl f_M_61 rfl (by first | exact ga G (by decide) rfl | assumption) (by first | exact gr G (by decide) rfl | assumption) ?_
                | refine T_iload_n (pc1 := 31) (pc := 30) k_M_copy_30 rfl rfl ?_
                | refine T_ialdN (pc1 := 32) (pc := 31) k_M_copy_31 rfl (by first | exact ga G (by decide) rfl | assumption) (by omega) (by omega) (by first | assumption | (simp (disch := omega) only [pI_eq, pI_row, pI_col, va_up_self, va_up_ne, ne_eq, not_false_eq_true, hSo, h1, hk1] <;> rfl) | rfl) ?_
                | refine T_iald (pc1 := 32) (pc := 31) k_M_copy_31 rfl (by first | exact ga G (by decide) rfl | assumption) (by assumption) ?_
                | (with_reducible refine T_if_geN (tgt := 38) (pc1 := 35) (pc := 32) k_M_copy_32 (by decide) (by decide) (by omega) ?_ <;> first | (exfalso; omega) | skip)
                | refine T_if_ge_t (tgt := 38) (pc := 32) k_M_copy_32 rfl (by decide) ?_
                | refine T_if_ge_f (tgt := 38) (pc1 := 35) (pc := 32) k_M_copy_32 rfl rfl (by decide) ?_
                | refine T_if_ge (tgt := 38) (pc1 := 35) (pc := 32) k_M_copy_32 rfl rfl (fun hc => ?_) (fun hc => ?_)
                | refine T_ldc (v := (-1000000011)) (pc1 := 37) (pc := 35) k_M_copy_35 rfl c_M_196 ?_
                | refine T_retI (pc := 37) k_M_copy_37 rfl (by first | rfl | decide | assumption) ?_
                | refine T_aload_n (pc1 := 39) (pc := 38) k_M_copy_38 rfl rfl ?_
                | refine T_aload_nN (pc1 := 39) (pc := 38) k_M_copy_38 rfl rfl ?_
                | refine T_getR (pc1 := 42) (pc := 39) k_M_copy_39 rfl f_M_61 rfl (by first | exact ga G (by decide) rfl | assumption) (by first | exact gr G (by decide) rfl | assumption) ?_
                | refine T_iload_n (pc1 := 43) (pc := 42) k_M_copy_42 rfl rfl ?_
                | refine T_ialdN (pc1 := 44) (pc := 43) k_M_copy_43 rfl (by first | exact ga G (by decide) rfl | assumption) (by omega) (by omega) (by first | assumption | (simp (disch := omega) only [pI_eq, pI_row, pI_col, va_up_self, va_up_ne, ne_eq, not_false_eq_true, hSo, h1, hk1] <;> rfl) | rfl) ?_
                | refine T_iald (pc1 := 44) (pc := 43) k_M_copy_43 rfl (by first | exact ga G (by decide) rfl | assumption) (by assumption) ?_
                | refine T_aload_n (pc1 := 45) (pc := 44) k_M_copy_44 rfl rfl ?_
                | refine T_aload_nN (pc1 := 45) (pc := 44) k_M_copy_44 rfl rfl ?_
                | refine T_getR (pc1 := 48) (pc := 45) k_M_copy_45 rfl f_M_61 rfl (by first | exact ga G (by decide) rfl | assumption) (by first | exact gr G (by decide) rfl | assumption) ?_
                | refine T_iload_n (pc1 := 49) (pc := 48) k_M_copy_48 rfl rfl ?_
                | refine T_ialdN (pc1 := 50) (pc := 49) k_M_copy_49 rfl (by first | exact ga G (by decide) rfl | assumption) (by omega) (by omega) (by first | assumption | (simp (disch := omega) only [pI_eq, pI_row, pI_col, va_up_self, va_up_ne, ne_eq, not_false_eq_true, hSo, h1, hk1] <;> rfl) | rfl) ?_
                | refine T_iald (pc1 := 50) (pc := 49) k_M_copy_49 rfl (by first | exact ga G (by decide) rfl | assumption) (by assumption) ?_
                | (with_reducible refine T_icmp_eqN (tgt := 56) (pc1 := 53) (pc := 50) k_M_copy_50 (by decide) (by decide) (by omega) (by omega) (fun hc => ?_) (fun hc => ?_) <;> first | (exfalso; omega) | skip)
                | refine T_icmp_eq_t (tgt := 56) (pc := 50) k_M_copy_50 rfl (by decide) ?_
                | refine T_icmp_eq_f (tgt := 56) (pc1 := 53) (pc := 50) k_M_copy_50 rfl rfl (by decide) ?_
                | refine T_icmp_eq (tgt := 56) (pc1 := 53) (pc := 50) k_M_copy_50 rfl rfl (fun hc => ?_) (fun hc => ?_)
                | refine T_ldc (v := (-1000000012)) (pc1 := 55) (pc := 53) k_M_copy_53 rfl c_M_155 ?_
                | refine T_retI (pc := 55) k_M_copy_55 rfl (by first | rfl | decide | assumption) ?_
                | refine T_iload_n (pc1 := 57) (pc := 56) k_M_copy_56 rfl rfl ?_
                | (with_reducible refine T_if_ltN (tgt := 105) (pc1 := 60) (pc := 57) k_M_copy_57 (by decide) (by decide) (by omega) ?_ <;> first | (exfalso; omega) | skip)
                | refine T_if_lt_t (tgt := 105) (pc := 57) k_M_copy_57 rfl (by decide) ?_
                | refine T_if_lt_f (tgt := 105) (pc1 := 60) (pc := 57) k_M_copy_57 rfl rfl (by decide) ?_
                | refine T_if_lt (tgt := 105) (pc1 := 60) (pc := 57) k_M_copy_57 rfl rfl (fun hc => ?_) (fun hc => ?_)
                | refine T_iload (pc1 := 62) (pc := 60) k_M_copy_60 rfl rfl ?_
                | (with_reducible refine T_if_ltN (tgt := 105) (pc1 := 65) (pc := 62) k_M_copy_62 (by decide) (by decide) (by omega) ?_ <;> first | (exfalso; omega) | skip)
                | refine T_if_lt_t (tgt := 105) (pc := 62) k_M_copy_62 rfl (by decide) ?_
                | refine T_if_lt_f (tgt := 105) (pc1 := 65) (pc := 62) k_M_copy_62 rfl rfl (by decide) ?_
                | refine T_if_lt (tgt := 105) (pc1 := 65) (pc := 62) k_M_copy_62 rfl rfl (fun hc => ?_) (fun hc => ?_)
                | refine T_iload (pc1 := 67) (pc := 65) k_M_copy_65 rfl rfl ?_
                | (with_reducible refine T_if_ltN (tgt := 105) (pc1 := 70) (pc := 67) k_M_copy_67 (by decide) (by decide) (by omega) ?_ <;> first | (exfalso; omega) | skip)
                | refine T_if_lt_t (tgt := 105) (pc := 67) k_M_copy_67 rfl (by decide) ?_
                | refine T_if_lt_f (tgt := 105) (pc1 := 70) (pc := 67) k_M_copy_67 rfl rfl (by decide) ?_
                | refine T_if_lt (tgt := 105) (pc1 := 70) (pc := 67) k_M_copy_67 rfl rfl (fun hc => ?_) (fun hc => ?_)
                | refine T_iload_n (pc1 := 71) (pc := 70) k_M_copy_70 rfl rfl ?_
                | refine T_i2l (pc1 := 72) (pc := 71) k_M_copy_71 rfl ?_
                | refine T_iload (pc1 := 74) (pc := 72) k_M_copy_72 rfl rfl ?_
                | refine T_i2l (pc1 := 75) (pc := 74) k_M_copy_74 rfl ?_
                | refine T_ladd (pc1 := 76) (pc := 75) k_M_copy_75 rfl ?_
                | refine T_aload_n (pc1 := 77) (pc := 76) k_M_copy_76 rfl rfl ?_
                | refine T_aload_nN (pc1 := 77) (pc := 76) k_M_copy_76 rfl rfl ?_
                | refine T_getR (pc1 := 80) (pc := 77) k_M_copy_77 rfl f_M_64 rfl (by first | exact ga G (by decide) rfl | assumption) (by first | exact gr G (by decide) rfl | assumption) ?_
                | refine T_iload_n (pc1 := 81) (pc := 80) k_M_copy_80 rfl rfl ?_
                | refine T_ialdN (pc1 := 82) (pc := 81) k_M_copy_81 rfl (by first | exact ga G (by decide) rfl | assumption) (by omega) (by omega) (by first | assumption | (simp (disch := omega) only [pI_eq, pI_row, pI_col, va_up_self, va_up_ne, ne_eq, not_false_eq_true, hSo, h1, hk1] <;> rfl) | rfl) ?_
                | refine T_iald (pc1 := 82) (pc := 81) k_M_copy_81 rfl (by first | exact ga G (by decide) rfl | assumption) (by assumption) ?_
                | refine T_i2l (pc1 := 83) (pc := 82) k_M_copy_82 rfl ?_
                | refine T_lcmp (pc1 := 84) (pc := 83) k_M_copy_83 rfl ?_
                | (with_reducible refine T_if_gtN (tgt := 105) (pc1 := 87) (pc := 84) k_M_copy_84 (by decide) (by decide) (by omega) (fun hc => ?_) (fun hc => ?_) <;> first | (exfalso; omega) | skip)
                | refine T_if_gt_t (tgt := 105) (pc := 84) k_M_copy_84 rfl (by decide) ?_
                | refine T_if_gt_f (tgt := 105) (pc1 := 87) (pc := 84) k_M_copy_84 rfl rfl (by decide) ?_
                | refine T_if_gt (tgt := 105) (pc1 := 87) (pc := 84) k_M_copy_84 rfl rfl (fun hc => ?_) (fun hc => ?_)
                | refine T_iload (pc1 := 89) (pc := 87) k_M_copy_87 rfl rfl ?_
                | refine T_i2l (pc1 := 90) (pc := 89) k_M_copy_89 rfl ?_
                | refine T_iload (pc1 := 92) (pc := 90) k_M_copy_90 rfl rfl ?_
                | refine T_i2l (pc1 := 93) (pc := 92) k_M_copy_92 rfl ?_
                | refine T_ladd (pc1 := 94) (pc := 93) k_M_copy_93 rfl ?_
                | refine T_aload_n (pc1 := 95) (pc := 94) k_M_copy_94 rfl rfl ?_
                | refine T_aload_nN (pc1 := 95) (pc := 94) k_M_copy_94 rfl rfl ?_
                | refine T_getR (pc1 := 98) (pc := 95) k_M_copy_95 rfl f_M_64 rfl (by first | exact ga G (by decide) rfl | assumption) (by first | exact gr G (by decide) rfl | assumption) ?_
                | refine T_iload_n (pc1 := 99) (pc := 98) k_M_copy_98 rfl rfl ?_
                | refine T_ialdN (pc1 := 100) (pc := 99) k_M_copy_99 rfl (by first | exact ga G (by decide) rfl | assumption) (by omega) (by omega) (by first | assumption | (simp (disch := omega) only [pI_eq, pI_row, pI_col, va_up_self, va_up_ne, ne_eq, not_false_eq_true, hSo, h1, hk1] <;> rfl) | rfl) ?_
                | refine T_iald (pc1 := 100) (pc := 99) k_M_copy_99 rfl (by first | exact ga G (by decide) rfl | assumption) (by assumption) ?_
                | refine T_i2l (pc1 := 101) (pc := 100) k_M_copy_100 rfl ?_
                | refine T_lcmp (pc1 := 102) (pc := 101) k_M_copy_101 rfl ?_
                | (with_reducible refine T_if_leN (tgt := 109) (pc1 := 105) (pc := 102) k_M_copy_102 (by decide) (by decide) (by omega) (fun hc => ?_) (fun hc => ?_) <;> first | (exfalso; omega) | skip)
                | refine T_if_le_t (tgt := 109) (pc := 102) k_M_copy_102 rfl (by decide) ?_
                | refine T_if_le_f (tgt := 109) (pc1 := 105) (pc := 102) k_M_copy_102 rfl rfl (by decide) ?_
                | refine T_if_le (tgt := 109) (pc1 := 105) (pc := 102) k_M_copy_102 rfl rfl (fun hc => ?_) (fun hc => ?_)
                | refine T_ldcw (v := (-1000000013)) (pc1 := 108) (pc := 105) k_M_copy_105 rfl c_M_297 ?_
                | refine T_retI (pc := 108) k_M_copy_108 rfl (by first | rfl | decide | assumption) ?_
                | refine T_iconst (v := (nI 0)) (pc1 := 110) (pc := 109) k_M_copy_109 rfl (by decide) ?_
                | refine T_istore (pc1 := 112) (pc := 110) k_M_copy_110 rfl (Nat.le_of_ble_eq_true rfl) ?_
                | refine T_iload (pc1 := 114) (pc := 112) k_M_copy_112 rfl rfl ?_
                | refine T_iload (pc1 := 116) (pc := 114) k_M_copy_114 rfl rfl ?_
                | (with_reducible refine T_icmp_geN (tgt := 146) (pc1 := 119) (pc := 116) k_M_copy_116 (by decide) (by decide) (by omega) (by omega) (fun hc => ?_) (fun hc => ?_) <;> first | (exfalso; omega) | skip)
                | refine T_icmp_ge_t (tgt := 146) (pc := 116) k_M_copy_116 rfl (by decide) ?_
                | refine T_icmp_ge_f (tgt := 146) (pc1 := 119) (pc := 116) k_M_copy_116 rfl rfl (by decide) ?_
                | refine T_icmp_ge (tgt := 146) (pc1 := 119) (pc := 116) k_M_copy_116 rfl rfl (fun hc => ?_) (fun hc => ?_)
                | refine T_aload_n (pc1 := 120) (pc := 119) k_M_copy_119 rfl rfl ?_
                | refine T_aload_nN (pc1 := 120) (pc := 119) k_M_copy_119 rfl rfl ?_
                | refine T_getR (pc1 := 123) (pc := 120) k_M_copy_120 rfl f_M_70 rfl (by first | exact ga G (by decide) rfl | assumption) (by first | exact gr G (by decide) rfl | assumption) ?_
                | refine T_iload (pc1 := 125) (pc := 123) k_M_copy_123 rfl rfl ?_
                | refine T_aload_n (pc1 := 126) (pc := 125) k_M_copy_125 rfl rfl ?_
                | refine T_aload_nN (pc1 := 126) (pc := 125) k_M_copy_125 rfl rfl ?_
                | refine T_getR (pc1 := 129) (pc := 126) k_M_copy_126 rfl f_M_67 rfl (by first | exact ga G (by decide) rfl | assumption) (by first | exact gr G (by decide) rfl | assumption) ?_
                | refine T_bipush (v := (nI 24)) (pc1 := 131) (pc := 129) k_M_copy_129 rfl (by decide) ?_
                | refine T_iload_n (pc1 := 132) (pc := 131) k_M_copy_131 rfl rfl ?_
                | with_reducible refine T_imulN (pc1 := 133) (pc := 132) k_M_copy_132 (by decide) ?_
                | refine T_imul (pc1 := 133) (pc := 132) k_M_copy_132 rfl ?_
                | refine T_iload_n (pc1 := 134) (pc := 133) k_M_copy_133 rfl rfl ?_
                | with_reducible refine T_iaddN (pc1 := 135) (pc := 134) k_M_copy_134 (by decide) ?_
                | refine T_iadd (pc1 := 135) (pc := 134) k_M_copy_134 rfl ?_
                | refine T_iload (pc1 := 137) (pc := 135) k_M_copy_135 rfl rfl ?_
                | with_reducible refine T_iaddN (pc1 := 138) (pc := 137) k_M_copy_137 (by decide) ?_
                | refine T_iadd (pc1 := 138) (pc := 137) k_M_copy_137 rfl ?_
                | refine T_ialdN (pc1 := 139) (pc := 138) k_M_copy_138 rfl (by first | exact ga G (by decide) rfl | assumption) (by omega) (by omega) (by first | assumption | (simp (disch := omega) only [pI_eq, pI_row, pI_col, va_up_self, va_up_ne, ne_eq, not_false_eq_true, hSo, h1, hk1] <;> rfl) | rfl) ?_
                | refine T_iald (pc1 := 139) (pc := 138) k_M_copy_138 rfl (by first | exact ga G (by decide) rfl | assumption) (by assumption) ?_
                | refine T_iastN (pc1 := 140) (pc := 139) k_M_copy_139 rfl (by first | exact ga G (by decide) rfl | assumption) (by omega) (by omega) ?_
                | refine T_iincN (b := 1) (pc1 := 143) (pc := 140) k_M_copy_140 rfl rfl (by decide) ?_
                | refine T_iinc (v := (nI 1)) (pc1 := 143) (pc := 140) k_M_copy_140 rfl rfl (by decide) ?_
                | refine T_goto (tgt := 112) (pc := 143) k_M_copy_143 rfl ?_
                | refine T_iconst (v := (nI 0)) (pc1 := 147) (pc := 146) k_M_copy_146 rfl (by decide) ?_
                | refine T_istore (pc1 := 149) (pc := 147) k_M_copy_147 rfl (Nat.le_of_ble_eq_true rfl) ?_
                | refine T_iload (pc1 := 153) (pc := 151) k_M_copy_151 rfl rfl ?_
                | (with_reducible refine T_icmp_geN (tgt := 184) (pc1 := 156) (pc := 153) k_M_copy_153 (by decide) (by decide) (by omega) (by omega) (fun hc => ?_) (fun hc => ?_) <;> first | (exfalso; omega) | skip)
                | refine T_icmp_ge_t (tgt := 184) (pc := 153) k_M_copy_153 rfl (by decide) ?_
                | refine T_icmp_ge_f (tgt := 184) (pc1 := 156) (pc := 153) k_M_copy_153 rfl rfl (by decide) ?_
                | refine T_icmp_ge (tgt := 184) (pc1 := 156) (pc := 153) k_M_copy_153 rfl rfl (fun hc => ?_) (fun hc => ?_)
                | refine T_aload_n (pc1 := 157) (pc := 156) k_M_copy_156 rfl rfl ?_
                | refine T_aload_nN (pc1 := 157) (pc := 156) k_M_copy_156 rfl rfl ?_
                | refine T_getR (pc1 := 160) (pc := 157) k_M_copy_157 rfl f_M_67 rfl (by first | exact ga G (by decide) rfl | assumption) (by first | exact gr G (by decide) rfl | assumption) ?_
                | refine T_bipush (v := (nI 24)) (pc1 := 162) (pc := 160) k_M_copy_160 rfl (by decide) ?_
                | refine T_iload_n (pc1 := 163) (pc := 162) k_M_copy_162 rfl rfl ?_
                | with_reducible refine T_imulN (pc1 := 164) (pc := 163) k_M_copy_163 (by decide) ?_
                | refine T_imul (pc1 := 164) (pc := 163) k_M_copy_163 rfl ?_
                | refine T_iload (pc1 := 166) (pc := 164) k_M_copy_164 rfl rfl ?_
                | with_reducible refine T_iaddN (pc1 := 167) (pc := 166) k_M_copy_166 (by decide) ?_
                | refine T_iadd (pc1 := 167) (pc := 166) k_M_copy_166 rfl ?_
                | refine T_iload (pc1 := 169) (pc := 167) k_M_copy_167 rfl rfl ?_
                | with_reducible refine T_iaddN (pc1 := 170) (pc := 169) k_M_copy_169 (by decide) ?_
                | refine T_iadd (pc1 := 170) (pc := 169) k_M_copy_169 rfl ?_
                | refine T_aload_n (pc1 := 171) (pc := 170) k_M_copy_170 rfl rfl ?_
                | refine T_aload_nN (pc1 := 171) (pc := 170) k_M_copy_170 rfl rfl ?_
                | refine T_getR (pc1 := 174) (pc := 171) k_M_copy_171 rfl f_M_70 rfl (by first | exact ga G (by decide) rfl | assumption) (by first | exact gr G (by decide) rfl | assumption) ?_
                | refine T_iload (pc1 := 176) (pc := 174) k_M_copy_174 rfl rfl ?_
                | refine T_ialdN (pc1 := 177) (pc := 176) k_M_copy_176 rfl (by first | exact ga G (by decide) rfl | assumption) (by omega) (by omega) (by first | assumption | (simp (disch := omega) only [pI_eq, pI_row, pI_col, va_up_self, va_up_ne, ne_eq, not_false_eq_true, hSo, h1, hk1] <;> rfl) | rfl) ?_
                | refine T_iald (pc1 := 177) (pc := 176) k_M_copy_176 rfl (by first | exact ga G (by decide) rfl | assumption) (by assumption) ?_
                | refine T_iastN (pc1 := 178) (pc := 177) k_M_copy_177 rfl (by first | exact ga G (by decide) rfl | assumption) (by omega) (by omega) ?_
                | refine T_iincN (b := 1) (pc1 := 181) (pc := 178) k_M_copy_178 rfl rfl (by decide) ?_
                | refine T_iinc (v := (nI 1)) (pc1 := 181) (pc := 178) k_M_copy_178 rfl rfl (by decide) ?_
                | refine T_goto (tgt := 149) (pc := 181) k_M_copy_181 rfl ?_
                | refine T_iload (pc1 := 186) (pc := 184) k_M_copy_184 rfl rfl ?_
                | refine T_retI (pc := 186) k_M_copy_186 rfl (by first | rfl | decide | assumption) ?_)
              refine ih (i + 1) _ (by omega) (eqx_pI hJ _ (by decide)) (fun x hx => by rw [pI_rw (by decide)]; exact h117 x hx) ?_
              rw [pI_self, h116, vcpy_s]
          have loop1 : ∀ q i (J : IM), i + q = m → eqx [116, 117] I J → (∀ x, x < i → J 117 x = Pl (24 * j + p + x)) → J 116 = Pl → Rl 3 M_M_copy 112 [some (.ref 101), some (.int (nI j)), some (.int (nI p)), some (.int (nI k)), some (.int (nI a)), some (.int (nI m)), some (.int (nI i))] [] g J K := by
            intro q
            induction q with
            | zero =>
              intro i J hi hJ h117 h116
              have hi : i = m := by omega
              subst hi
              repeat' (first
                | refine T_iload_n (pc1 := 1) (pc := 0) k_M_copy_0 rfl rfl ?_
                | (refine T_cS (As := [_]) (d1 := 2) (pc1 := 4) (pc := 1) k_M_copy_1 rfl (by decide) (Nat.le_of_ble_eq_true rfl) rfl o_M_isSheet l_M_193 rfl (c_M_isSheet (fun hw => ?_) (fun hw => ?_)) <;> try dsimp only [psh])
                | (with_reducible refine T_if_eqN (tgt := 14) (pc1 := 7) (pc := 4) k_M_copy_4 (by decide) (by decide) (by omega) (fun hc => ?_) (fun hc => ?_) <;> first | (exfalso; omega) | skip)
                | refine T_if_eq_t (tgt := 14) (pc := 4) k_M_copy_4 rfl (by decide) ?_
                | refine T_if_eq_f (tgt := 14) (pc1 := 7) (pc := 4) k_M_copy_4 rfl rfl (by decide) ?_
                | refine T_if_eq (tgt := 14) (pc1 := 7) (pc := 4) k_M_copy_4 rfl rfl (fun hc => ?_) (fun hc => ?_)
                | refine T_iload_n (pc1 := 8) (pc := 7) k_M_copy_7 rfl rfl ?_
                | (refine T_cS (As := [_]) (d1 := 2) (pc1 := 11) (pc := 8) k_M_copy_8 rfl (by decide) (Nat.le_of_ble_eq_true rfl) rfl o_M_isSheet l_M_193 rfl (c_M_isSheet (fun hw => ?_) (fun hw => ?_)) <;> try dsimp only [psh])
                | (with_reducible refine T_if_neN (tgt := 17) (pc1 := 14) (pc := 11) k_M_copy_11 (by decide) (by decide) (by omega) (fun hc => ?_) (fun hc => ?_) <;> first | (exfalso; omega) | skip)
                | refine T_if_ne_t (tgt := 17) (pc := 11) k_M_copy_11 rfl (by decide) ?_
                | refine T_if_ne_f (tgt := 17) (pc1 := 14) (pc := 11) k_M_copy_11 rfl rfl (by decide) ?_
                | refine T_if_ne (tgt := 17) (pc1 := 14) (pc := 11) k_M_copy_11 rfl rfl (fun hc => ?_) (fun hc => ?_)
                | refine T_ldc (v := (-1000000001)) (pc1 := 16) (pc := 14) k_M_copy_14 rfl c_M_111 ?_
                | refine T_retI (pc := 16) k_M_copy_16 rfl (by first | rfl | decide | assumption) ?_
                | refine T_aload_n (pc1 := 18) (pc := 17) k_M_copy_17 rfl rfl ?_
                | refine T_aload_nN (pc1 := 18) (pc := 17) k_M_copy_17 rfl rfl ?_
                | refine T_getR (pc1 := 21) (pc := 18) k_M_copy_18 rfl f_M_61 rfl (by first | exact ga G (by decide) rfl | assumption) (by first | exact gr G (by decide) rfl | assumption) ?_
                | refine T_iload_n (pc1 := 22) (pc := 21) k_M_copy_21 rfl rfl ?_
                | refine T_ialdN (pc1 := 23) (pc := 22) k_M_copy_22 rfl (by first | exact ga G (by decide) rfl | assumption) (by omega) (by omega) (by first | assumption | (simp (disch := omega) only [pI_eq, pI_row, pI_col, va_up_self, va_up_ne, ne_eq, not_false_eq_true, hSo, h1, hk1] <;> rfl) | rfl) ?_
                | refine T_iald (pc1 := 23) (pc := 22) k_M_copy_22 rfl (by first | exact ga G (by decide) rfl | assumption) (by assumption) ?_
                | (with_reducible refine T_if_ltN (tgt := 35) (pc1 := 26) (pc := 23) k_M_copy_23 (by decide) (by decide) (by omega) ?_ <;> first | (exfalso; omega) | skip)
                | refine T_if_lt_t (tgt := 35) (pc := 23) k_M_copy_23 rfl (by decide) ?_
                | refine T_if_lt_f (tgt := 35) (pc1 := 26) (pc := 23) k_M_copy_23 rfl rfl (by decide) ?_
                | refine T_if_lt (tgt := 35) (pc1 := 26) (pc := 23) k_M_copy_23 rfl rfl (fun hc => ?_) (fun hc => ?_)
                | refine T_aload_n (pc1 := 27) (pc := 26) k_M_copy_26 rfl rfl ?_
                | refine T_aload_nN (pc1 := 27) (pc := 26) k_M_copy_26 rfl rfl ?_
                | refine T_getR (pc1 := 30) (pc := 27) k_M_copy_27 rfl f_M_61 rfl (by first | exact ga G (by decide) rfl | assumption) (by first | exact gr G (by decide) rfl | assumption) ?_
                | refine T_iload_n (pc1 := 31) (pc := 30) k_M_copy_30 rfl rfl ?_
                | refine T_ialdN (pc1 := 32) (pc := 31) k_M_copy_31 rfl (by first | exact ga G (by decide) rfl | assumption) (by omega) (by omega) (by first | assumption | (simp (disch := omega) only [pI_eq, pI_row, pI_col, va_up_self, va_up_ne, ne_eq, not_false_eq_true, hSo, h1, hk1] <;> rfl) | rfl) ?_
                | refine T_iald (pc1 := 32) (pc := 31) k_M_copy_31 rfl (by first | exact ga G (by decide) rfl | assumption) (by assumption) ?_
                | (with_reducible refine T_if_geN (tgt := 38) (pc1 := 35) (pc := 32) k_M_copy_32 (by decide) (by decide) (by omega) ?_ <;> first | (exfalso; omega) | skip)
                | refine T_if_ge_t (tgt := 38) (pc := 32) k_M_copy_32 rfl (by decide) ?_
                | refine T_if_ge_f (tgt := 38) (pc1 := 35) (pc := 32) k_M_copy_32 rfl rfl (by decide) ?_
                | refine T_if_ge (tgt := 38) (pc1 := 35) (pc := 32) k_M_copy_32 rfl rfl (fun hc => ?_) (fun hc => ?_)
                | refine T_ldc (v := (-1000000011)) (pc1 := 37) (pc := 35) k_M_copy_35 rfl c_M_196 ?_
                | refine T_retI (pc := 37) k_M_copy_37 rfl (by first | rfl | decide | assumption) ?_
                | refine T_aload_n (pc1 := 39) (pc := 38) k_M_copy_38 rfl rfl ?_
                | refine T_aload_nN (pc1 := 39) (pc := 38) k_M_copy_38 rfl rfl ?_
                | refine T_getR (pc1 := 42) (pc := 39) k_M_copy_39 rfl f_M_61 rfl (by first | exact ga G (by decide) rfl | assumption) (by first | exact gr G (by decide) rfl | assumption) ?_
                | refine T_iload_n (pc1 := 43) (pc := 42) k_M_copy_42 rfl rfl ?_
                | refine T_ialdN (pc1 := 44) (pc := 43) k_M_copy_43 rfl (by first | exact ga G (by decide) rfl | assumption) (by omega) (by omega) (by first | assumption | (simp (disch := omega) only [pI_eq, pI_row, pI_col, va_up_self, va_up_ne, ne_eq, not_false_eq_true, hSo, h1, hk1] <;> rfl) | rfl) ?_
                | refine T_iald (pc1 := 44) (pc := 43) k_M_copy_43 rfl (by first | exact ga G (by decide) rfl | assumption) (by assumption) ?_
                | refine T_aload_n (pc1 := 45) (pc := 44) k_M_copy_44 rfl rfl ?_
                | refine T_aload_nN (pc1 := 45) (pc := 44) k_M_copy_44 rfl rfl ?_
                | refine T_getR (pc1 := 48) (pc := 45) k_M_copy_45 rfl f_M_61 rfl (by first | exact ga G (by decide) rfl | assumption) (by first | exact gr G (by decide) rfl | assumption) ?_
                | refine T_iload_n (pc1 := 49) (pc := 48) k_M_copy_48 rfl rfl ?_
                | refine T_ialdN (pc1 := 50) (pc := 49) k_M_copy_49 rfl (by first | exact ga G (by decide) rfl | assumption) (by omega) (by omega) (by first | assumption | (simp (disch := omega) only [pI_eq, pI_row, pI_col, va_up_self, va_up_ne, ne_eq, not_false_eq_true, hSo, h1, hk1] <;> rfl) | rfl) ?_
                | refine T_iald (pc1 := 50) (pc := 49) k_M_copy_49 rfl (by first | exact ga G (by decide) rfl | assumption) (by assumption) ?_
                | (with_reducible refine T_icmp_eqN (tgt := 56) (pc1 := 53) (pc := 50) k_M_copy_50 (by decide) (by decide) (by omega) (by omega) (fun hc => ?_) (fun hc => ?_) <;> first | (exfalso; omega) | skip)
                | refine T_icmp_eq_t (tgt := 56) (pc := 50) k_M_copy_50 rfl (by decide) ?_
                | refine T_icmp_eq_f (tgt := 56) (pc1 := 53) (pc := 50) k_M_copy_50 rfl rfl (by decide) ?_
                | refine T_icmp_eq (tgt := 56) (pc1 := 53) (pc := 50) k_M_copy_50 rfl rfl (fun hc => ?_) (fun hc => ?_)
                | refine T_ldc (v := (-1000000012)) (pc1 := 55) (pc := 53) k_M_copy_53 rfl c_M_155 ?_
                | refine T_retI (pc := 55) k_M_copy_55 rfl (by first | rfl | decide | assumption) ?_
                | refine T_iload_n (pc1 := 57) (pc := 56) k_M_copy_56 rfl rfl ?_
                | (with_reducible refine T_if_ltN (tgt := 105) (pc1 := 60) (pc := 57) k_M_copy_57 (by decide) (by decide) (by omega) ?_ <;> first | (exfalso; omega) | skip)
                | refine T_if_lt_t (tgt := 105) (pc := 57) k_M_copy_57 rfl (by decide) ?_
                | refine T_if_lt_f (tgt := 105) (pc1 := 60) (pc := 57) k_M_copy_57 rfl rfl (by decide) ?_
                | refine T_if_lt (tgt := 105) (pc1 := 60) (pc := 57) k_M_copy_57 rfl rfl (fun hc => ?_) (fun hc => ?_)
                | refine T_iload (pc1 := 62) (pc := 60) k_M_copy_60 rfl rfl ?_
                | (with_reducible refine T_if_ltN (tgt := 105) (pc1 := 65) (pc := 62) k_M_copy_62 (by decide) (by decide) (by omega) ?_ <;> first | (exfalso; omega) | skip)
                | refine T_if_lt_t (tgt := 105) (pc := 62) k_M_copy_62 rfl (by decide) ?_
                | refine T_if_lt_f (tgt := 105) (pc1 := 65) (pc := 62) k_M_copy_62 rfl rfl (by decide) ?_
                | refine T_if_lt (tgt := 105) (pc1 := 65) (pc := 62) k_M_copy_62 rfl rfl (fun hc => ?_) (fun hc => ?_)
                | refine T_iload (pc1 := 67) (pc := 65) k_M_copy_65 rfl rfl ?_
                | (with_reducible refine T_if_ltN (tgt := 105) (pc1 := 70) (pc := 67) k_M_copy_67 (by decide) (by decide) (by omega) ?_ <;> first | (exfalso; omega) | skip)
                | refine T_if_lt_t (tgt := 105) (pc := 67) k_M_copy_67 rfl (by decide) ?_
                | refine T_if_lt_f (tgt := 105) (pc1 := 70) (pc := 67) k_M_copy_67 rfl rfl (by decide) ?_
                | refine T_if_lt (tgt := 105) (pc1 := 70) (pc := 67) k_M_copy_67 rfl rfl (fun hc => ?_) (fun hc => ?_)
                | refine T_iload_n (pc1 := 71) (pc := 70) k_M_copy_70 rfl rfl ?_
                | refine T_i2l (pc1 := 72) (pc := 71) k_M_copy_71 rfl ?_
                | refine T_iload (pc1 := 74) (pc := 72) k_M_copy_72 rfl rfl ?_
                | refine T_i2l (pc1 := 75) (pc := 74) k_M_copy_74 rfl ?_
                | refine T_ladd (pc1 := 76) (pc := 75) k_M_copy_75 rfl ?_
                | refine T_aload_n (pc1 := 77) (pc := 76) k_M_copy_76 rfl rfl ?_
                | refine T_aload_nN (pc1 := 77) (pc := 76) k_M_copy_76 rfl rfl ?_
                | refine T_getR (pc1 := 80) (pc := 77) k_M_copy_77 rfl f_M_64 rfl (by first | exact ga G (by decide) rfl | assumption) (by first | exact gr G (by decide) rfl | assumption) ?_
                | refine T_iload_n (pc1 := 81) (pc := 80) k_M_copy_80 rfl rfl ?_
                | refine T_ialdN (pc1 := 82) (pc := 81) k_M_copy_81 rfl (by first | exact ga G (by decide) rfl | assumption) (by omega) (by omega) (by first | assumption | (simp (disch := omega) only [pI_eq, pI_row, pI_col, va_up_self, va_up_ne, ne_eq, not_false_eq_true, hSo, h1, hk1] <;> rfl) | rfl) ?_
                | refine T_iald (pc1 := 82) (pc := 81) k_M_copy_81 rfl (by first | exact ga G (by decide) rfl | assumption) (by assumption) ?_
                | refine T_i2l (pc1 := 83) (pc := 82) k_M_copy_82 rfl ?_
                | refine T_lcmp (pc1 := 84) (pc := 83) k_M_copy_83 rfl ?_
                | (with_reducible refine T_if_gtN (tgt := 105) (pc1 := 87) (pc := 84) k_M_copy_84 (by decide) (by decide) (by omega) (fun hc => ?_) (fun hc => ?_) <;> first | (exfalso; omega) | skip)
                | refine T_if_gt_t (tgt := 105) (pc := 84) k_M_copy_84 rfl (by decide) ?_
                | refine T_if_gt_f (tgt := 105) (pc1 := 87) (pc := 84) k_M_copy_84 rfl rfl (by decide) ?_
                | refine T_if_gt (tgt := 105) (pc1 := 87) (pc := 84) k_M_copy_84 rfl rfl (fun hc => ?_) (fun hc => ?_)
                | refine T_iload (pc1 := 89) (pc := 87) k_M_copy_87 rfl rfl ?_
                | refine T_i2l (pc1 := 90) (pc := 89) k_M_copy_89 rfl ?_
                | refine T_iload (pc1 := 92) (pc := 90) k_M_copy_90 rfl rfl ?_
                | refine T_i2l (pc1 := 93) (pc := 92) k_M_copy_92 rfl ?_
                | refine T_ladd (pc1 := 94) (pc := 93) k_M_copy_93 rfl ?_
                | refine T_aload_n (pc1 := 95) (pc := 94) k_M_copy_94 rfl rfl ?_
                | refine T_aload_nN (pc1 := 95) (pc := 94) k_M_copy_94 rfl rfl ?_
                | refine T_getR (pc1 := 98) (pc := 95) k_M_copy_95 rfl f_M_64 rfl (by first | exact ga G (by decide) rfl | assumption) (by first | exact gr G (by decide) rfl | assumption) ?_
                | refine T_iload_n (pc1 := 99) (pc := 98) k_M_copy_98 rfl rfl ?_
                | refine T_ialdN (pc1 := 100) (pc := 99) k_M_copy_99 rfl (by first | exact ga G (by decide) rfl | assumption) (by omega) (by omega) (by first | assumption | (simp (disch := omega) only [pI_eq, pI_row, pI_col, va_up_self, va_up_ne, ne_eq, not_false_eq_true, hSo, h1, hk1] <;> rfl) | rfl) ?_
                | refine T_iald (pc1 := 100) (pc := 99) k_M_copy_99 rfl (by first | exact ga G (by decide) rfl | assumption) (by assumption) ?_
                | refine T_i2l (pc1 := 101) (pc := 100) k_M_copy_100 rfl ?_
                | refine T_lcmp (pc1 := 102) (pc := 101) k_M_copy_101 rfl ?_
                | (with_reducible refine T_if_leN (tgt := 109) (pc1 := 105) (pc := 102) k_M_copy_102 (by decide) (by decide) (by omega) (fun hc => ?_) (fun hc => ?_) <;> first | (exfalso; omega) | skip)
                | refine T_if_le_t (tgt := 109) (pc := 102) k_M_copy_102 rfl (by decide) ?_
                | refine T_if_le_f (tgt := 109) (pc1 := 105) (pc := 102) k_M_copy_102 rfl rfl (by decide) ?_
                | refine T_if_le (tgt := 109) (pc1 := 105) (pc := 102) k_M_copy_102 rfl rfl (fun hc => ?_) (fun hc => ?_)
                | refine T_ldcw (v := (-1000000013)) (pc1 := 108) (pc := 105) k_M_copy_105 rfl c_M_297 ?_
                | refine T_retI (pc := 108) k_M_copy_108 rfl (by first | rfl | decide | assumption) ?_
                | refine T_iconst (v := (nI 0)) (pc1 := 110) (pc := 109) k_M_copy_109 rfl (by decide) ?_
                | refine T_istore (pc1 := 112) (pc := 110) k_M_copy_110 rfl (Nat.le_of_ble_eq_true rfl) ?_
                | refine T_iload (pc1 := 114) (pc := 112) k_M_copy_112 rfl rfl ?_
                | refine T_iload (pc1 := 116) (pc := 114) k_M_copy_114 rfl rfl ?_
                | (with_reducible refine T_icmp_geN (tgt := 146) (pc1 := 119) (pc := 116) k_M_copy_116 (by decide) (by decide) (by omega) (by omega) (fun hc => ?_) (fun hc => ?_) <;> first | (exfalso; omega) | skip)
                | refine T_icmp_ge_t (tgt := 146) (pc := 116) k_M_copy_116 rfl (by decide) ?_
                | refine T_icmp_ge_f (tgt := 146) (pc1 := 119) (pc := 116) k_M_copy_116 rfl rfl (by decide) ?_
                | refine T_icmp_ge (tgt := 146) (pc1 := 119) (pc := 116) k_M_copy_116 rfl rfl (fun hc => ?_) (fun hc => ?_)
                | refine T_aload_n (pc1 := 120) (pc := 119) k_M_copy_119 rfl rfl ?_
                | refine T_aload_nN (pc1 := 120) (pc := 119) k_M_copy_119 rfl rfl ?_
                | refine T_getR (pc1 := 123) (pc := 120) k_M_copy_120 rfl f_M_70 rfl (by first | exact ga G (by decide) rfl | assumption) (by first | exact gr G (by decide) rfl | assumption) ?_
                | refine T_iload (pc1 := 125) (pc := 123) k_M_copy_123 rfl rfl ?_
                | refine T_aload_n (pc1 := 126) (pc := 125) k_M_copy_125 rfl rfl ?_
                | refine T_aload_nN (pc1 := 126) (pc := 125) k_M_copy_125 rfl rfl ?_
                | refine T_getR (pc1 := 129) (pc := 126) k_M_copy_126 rfl f_M_67 rfl (by first | exact ga G (by decide) rfl | assumption) (by first | exact gr G (by decide) rfl | assumption) ?_
                | refine T_bipush (v := (nI 24)) (pc1 := 131) (pc := 129) k_M_copy_129 rfl (by decide) ?_
                | refine T_iload_n (pc1 := 132) (pc := 131) k_M_copy_131 rfl rfl ?_
                | with_reducible refine T_imulN (pc1 := 133) (pc := 132) k_M_copy_132 (by decide) ?_
                | refine T_imul (pc1 := 133) (pc := 132) k_M_copy_132 rfl ?_
                | refine T_iload_n (pc1 := 134) (pc := 133) k_M_copy_133 rfl rfl ?_
                | with_reducible refine T_iaddN (pc1 := 135) (pc := 134) k_M_copy_134 (by decide) ?_
                | refine T_iadd (pc1 := 135) (pc := 134) k_M_copy_134 rfl ?_
                | refine T_iload (pc1 := 137) (pc := 135) k_M_copy_135 rfl rfl ?_
                | with_reducible refine T_iaddN (pc1 := 138) (pc := 137) k_M_copy_137 (by decide) ?_
                | refine T_iadd (pc1 := 138) (pc := 137) k_M_copy_137 rfl ?_
                | refine T_ialdN (pc1 := 139) (pc := 138) k_M_copy_138 rfl (by first | exact ga G (by decide) rfl | assumption) (by omega) (by omega) (by first | assumption | (simp (disch := omega) only [pI_eq, pI_row, pI_col, va_up_self, va_up_ne, ne_eq, not_false_eq_true, hSo, h1, hk1] <;> rfl) | rfl) ?_
                | refine T_iald (pc1 := 139) (pc := 138) k_M_copy_138 rfl (by first | exact ga G (by decide) rfl | assumption) (by assumption) ?_
                | refine T_iastN (pc1 := 140) (pc := 139) k_M_copy_139 rfl (by first | exact ga G (by decide) rfl | assumption) (by omega) (by omega) ?_
                | refine T_iincN (b := 1) (pc1 := 143) (pc := 140) k_M_copy_140 rfl rfl (by decide) ?_
                | refine T_iinc (v := (nI 1)) (pc1 := 143) (pc := 140) k_M_copy_140 rfl rfl (by decide) ?_
                | refine T_goto (tgt := 112) (pc := 143) k_M_copy_143 rfl ?_
                | refine T_iconst (v := (nI 0)) (pc1 := 147) (pc := 146) k_M_copy_146 rfl (by decide) ?_
                | refine T_istore (pc1 := 149) (pc := 147) k_M_copy_147 rfl (Nat.le_of_ble_eq_true rfl) ?_
                | refine T_iload (pc1 := 153) (pc := 151) k_M_copy_151 rfl rfl ?_
                | (with_reducible refine T_icmp_geN (tgt := 184) (pc1 := 156) (pc := 153) k_M_copy_153 (by decide) (by decide) (by omega) (by omega) (fun hc => ?_) (fun hc => ?_) <;> first | (exfalso; omega) | skip)
                | refine T_icmp_ge_t (tgt := 184) (pc := 153) k_M_copy_153 rfl (by decide) ?_
                | refine T_icmp_ge_f (tgt := 184) (pc1 := 156) (pc := 153) k_M_copy_153 rfl rfl (by decide) ?_
                | refine T_icmp_ge (tgt := 184) (pc1 := 156) (pc := 153) k_M_copy_153 rfl rfl (fun hc => ?_) (fun hc => ?_)
                | refine T_aload_n (pc1 := 157) (pc := 156) k_M_copy_156 rfl rfl ?_
                | refine T_aload_nN (pc1 := 157) (pc := 156) k_M_copy_156 rfl rfl ?_
                | refine T_getR (pc1 := 160) (pc := 157) k_M_copy_157 rfl f_M_67 rfl (by first | exact ga G (by decide) rfl | assumption) (by first | exact gr G (by decide) rfl | assumption) ?_
                | refine T_bipush (v := (nI 24)) (pc1 := 162) (pc := 160) k_M_copy_160 rfl (by decide) ?_
                | refine T_iload_n (pc1 := 163) (pc := 162) k_M_copy_162 rfl rfl ?_
                | with_reducible refine T_imulN (pc1 := 164) (pc := 163) k_M_copy_163 (by decide) ?_
                | refine T_imul (pc1 := 164) (pc := 163) k_M_copy_163 rfl ?_
                | refine T_iload (pc1 := 166) (pc := 164) k_M_copy_164 rfl rfl ?_
                | with_reducible refine T_iaddN (pc1 := 167) (pc := 166) k_M_copy_166 (by decide) ?_
                | refine T_iadd (pc1 := 167) (pc := 166) k_M_copy_166 rfl ?_
                | refine T_iload (pc1 := 169) (pc := 167) k_M_copy_167 rfl rfl ?_
                | with_reducible refine T_iaddN (pc1 := 170) (pc := 169) k_M_copy_169 (by decide) ?_
                | refine T_iadd (pc1 := 170) (pc := 169) k_M_copy_169 rfl ?_
                | refine T_aload_n (pc1 := 171) (pc := 170) k_M_copy_170 rfl rfl ?_
                | refine T_aload_nN (pc1 := 171) (pc := 170) k_M_copy_170 rfl rfl ?_
                | refine T_getR (pc1 := 174) (pc := 171) k_M_copy_171 rfl f_M_70 rfl (by first | exact ga G (by decide) rfl | assumption) (by first | exact gr G (by decide) rfl | assumption) ?_
                | refine T_iload (pc1 := 176) (pc := 174) k_M_copy_174 rfl rfl ?_
                | refine T_ialdN (pc1 := 177) (pc := 176) k_M_copy_176 rfl (by first | exact ga G (by decide) rfl | assumption) (by omega) (by omega) (by first | assumption | (simp (disch := omega) only [pI_eq, pI_row, pI_col, va_up_self, va_up_ne, ne_eq, not_false_eq_true, hSo, h1, hk1] <;> rfl) | rfl) ?_
                | refine T_iald (pc1 := 177) (pc := 176) k_M_copy_176 rfl (by first | exact ga G (by decide) rfl | assumption) (by assumption) ?_
                | refine T_iastN (pc1 := 178) (pc := 177) k_M_copy_177 rfl (by first | exact ga G (by decide) rfl | assumption) (by omega) (by omega) ?_
                | refine T_iincN (b := 1) (pc1 := 181) (pc := 178) k_M_copy_178 rfl rfl (by decide) ?_
                | refine T_iinc (v := (nI 1)) (pc1 := 181) (pc := 178) k_M_copy_178 rfl rfl (by decide) ?_
                | refine T_goto (tgt := 149) (pc := 181) k_M_copy_181 rfl ?_
                | refine T_iload (pc1 := 186) (pc := 184) k_M_copy_184 rfl rfl ?_
                | refine T_retI (pc := 186) k_M_copy_186 rfl (by first | rfl | decide | assumption) ?_)
              exact loop2 i 0 J (by omega) hJ h117 (by rw [vcpy_0]; exact h116)
            | succ q ih =>
              intro i J hi hJ h117 h116
              have e : J 116 (24 * j + p + i) = Pl (24 * j + p + i) := by rw [h116]
              refine T_iload (pc1 := 114) (pc := 112) k_M_copy_112 rfl rfl ?_
              repeat' (first
                | refine T_iload_n (pc1 := 1) (pc := 0) k_M_copy_0 rfl rfl ?_
                | (refine T_cS (As := [_]) (d1 := 2) (pc1 := 4) (pc := 1) k_M_copy_1 rfl (by decide) (Nat.le_of_ble_eq_true rfl) rfl o_M_isSheet l_M_193 rfl (c_M_isSheet (fun hw => ?_) (fun hw => ?_)) <;> try dsimp only [psh])
                | (with_reducible refine T_if_eqN (tgt := 14) (pc1 := 7) (pc := 4) k_M_copy_4 (by decide) (by decide) (by omega) (fun hc => ?_) (fun hc => ?_) <;> first | (exfalso; omega) | skip)
                | refine T_if_eq_t (tgt := 14) (pc := 4) k_M_copy_4 rfl (by decide) ?_
                | refine T_if_eq_f (tgt := 14) (pc1 := 7) (pc := 4) k_M_copy_4 rfl rfl (by decide) ?_
                | refine T_if_eq (tgt := 14) (pc1 := 7) (pc := 4) k_M_copy_4 rfl rfl (fun hc => ?_) (fun hc => ?_)
                | refine T_iload_n (pc1 := 8) (pc := 7) k_M_copy_7 rfl rfl ?_
                | (refine T_cS (As := [_]) (d1 := 2) (pc1 := 11) (pc := 8) k_M_copy_8 rfl (by decide) (Nat.le_of_ble_eq_true rfl) rfl o_M_isSheet l_M_193 rfl (c_M_isSheet (fun hw => ?_) (fun hw => ?_)) <;> try dsimp only [psh])
                | (with_reducible refine T_if_neN (tgt := 17) (pc1 := 14) (pc := 11) k_M_copy_11 (by decide) (by decide) (by omega) (fun hc => ?_) (fun hc => ?_) <;> first | (exfalso; omega) | skip)
                | refine T_if_ne_t (tgt := 17) (pc := 11) k_M_copy_11 rfl (by decide) ?_
                | refine T_if_ne_f (tgt := 17) (pc1 := 14) (pc := 11) k_M_copy_11 rfl rfl (by decide) ?_
                | refine T_if_ne (tgt := 17) (pc1 := 14) (pc := 11) k_M_copy_11 rfl rfl (fun hc => ?_) (fun hc => ?_)
                | refine T_ldc (v := (-1000000001)) (pc1 := 16) (pc := 14) k_M_copy_14 rfl c_M_111 ?_
                | refine T_retI (pc := 16) k_M_copy_16 rfl (by first | rfl | decide | assumption) ?_
                | refine T_aload_n (pc1 := 18) (pc := 17) k_M_copy_17 rfl rfl ?_
                | refine T_aload_nN (pc1 := 18) (pc := 17) k_M_copy_17 rfl rfl ?_
                | refine T_getR (pc1 := 21) (pc := 18) k_M_copy_18 rfl f_M_61 rfl (by first | exact ga G (by decide) rfl | assumption) (by first | exact gr G (by decide) rfl | assumption) ?_
                | refine T_iload_n (pc1 := 22) (pc := 21) k_M_copy_21 rfl rfl ?_
                | refine T_ialdN (pc1 := 23) (pc := 22) k_M_copy_22 rfl (by first | exact ga G (by decide) rfl | assumption) (by omega) (by omega) (by first | assumption | (simp (disch := omega) only [pI_eq, pI_row, pI_col, va_up_self, va_up_ne, ne_eq, not_false_eq_true, hSo, h1, hk1] <;> rfl) | rfl) ?_
                | refine T_iald (pc1 := 23) (pc := 22) k_M_copy_22 rfl (by first | exact ga G (by decide) rfl | assumption) (by assumption) ?_
                | (with_reducible refine T_if_ltN (tgt := 35) (pc1 := 26) (pc := 23) k_M_copy_23 (by decide) (by decide) (by omega) ?_ <;> first | (exfalso; omega) | skip)
                | refine T_if_lt_t (tgt := 35) (pc := 23) k_M_copy_23 rfl (by decide) ?_
                | refine T_if_lt_f (tgt := 35) (pc1 := 26) (pc := 23) k_M_copy_23 rfl rfl (by decide) ?_
                | refine T_if_lt (tgt := 35) (pc1 := 26) (pc := 23) k_M_copy_23 rfl rfl (fun hc => ?_) (fun hc => ?_)
                | refine T_aload_n (pc1 := 27) (pc := 26) k_M_copy_26 rfl rfl ?_
                | refine T_aload_nN (pc1 := 27) (pc := 26) k_M_copy_26 rfl rfl ?_
                | refine T_getR (pc1 := 30) (pc := 27) k_M_copy_27 rfl f_M_61 rfl (by first | exact ga G (by decide) rfl | assumption) (by first | exact gr G (by decide) rfl | assumption) ?_
                | refine T_iload_n (pc1 := 31) (pc := 30) k_M_copy_30 rfl rfl ?_
                | refine T_ialdN (pc1 := 32) (pc := 31) k_M_copy_31 rfl (by first | exact ga G (by decide) rfl | assumption) (by omega) (by omega) (by first | assumption | (simp (disch := omega) only [pI_eq, pI_row, pI_col, va_up_self, va_up_ne, ne_eq, not_false_eq_true, hSo, h1, hk1] <;> rfl) | rfl) ?_
                | refine T_iald (pc1 := 32) (pc := 31) k_M_copy_31 rfl (by first | exact ga G (by decide) rfl | assumption) (by assumption) ?_
                | (with_reducible refine T_if_geN (tgt := 38) (pc1 := 35) (pc := 32) k_M_copy_32 (by decide) (by decide) (by omega) ?_ <;> first | (exfalso; omega) | skip)
                | refine T_if_ge_t (tgt := 38) (pc := 32) k_M_copy_32 rfl (by decide) ?_
                | refine T_if_ge_f (tgt := 38) (pc1 := 35) (pc := 32) k_M_copy_32 rfl rfl (by decide) ?_
                | refine T_if_ge (tgt := 38) (pc1 := 35) (pc := 32) k_M_copy_32 rfl rfl (fun hc => ?_) (fun hc => ?_)
                | refine T_ldc (v := (-1000000011)) (pc1 := 37) (pc := 35) k_M_copy_35 rfl c_M_196 ?_
                | refine T_retI (pc := 37) k_M_copy_37 rfl (by first | rfl | decide | assumption) ?_
                | refine T_aload_n (pc1 := 39) (pc := 38) k_M_copy_38 rfl rfl ?_
                | refine T_aload_nN (pc1 := 39) (pc := 38) k_M_copy_38 rfl rfl ?_
                | refine T_getR (pc1 := 42) (pc := 39) k_M_copy_39 rfl f_M_61 rfl (by first | exact ga G (by decide) rfl | assumption) (by first | exact gr G (by decide) rfl | assumption) ?_
                | refine T_iload_n (pc1 := 43) (pc := 42) k_M_copy_42 rfl rfl ?_
                | refine T_ialdN (pc1 := 44) (pc := 43) k_M_copy_43 rfl (by first | exact ga G (by decide) rfl | assumption) (by omega) (by omega) (by first | assumption | (simp (disch := omega) only [pI_eq, pI_row, pI_col, va_up_self, va_up_ne, ne_eq, not_false_eq_true, hSo, h1, hk1] <;> rfl) | rfl) ?_
                | refine T_iald (pc1 := 44) (pc := 43) k_M_copy_43 rfl (by first | exact ga G (by decide) rfl | assumption) (by assumption) ?_
                | refine T_aload_n (pc1 := 45) (pc := 44) k_M_copy_44 rfl rfl ?_
                | refine T_aload_nN (pc1 := 45) (pc := 44) k_M_copy_44 rfl rfl ?_
                | refine T_getR (pc1 := 48) (pc := 45) k_M_copy_45 rfl f_M_61 rfl (by first | exact ga G (by decide) rfl | assumption) (by first | exact gr G (by decide) rfl | assumption) ?_
                | refine T_iload_n (pc1 := 49) (pc := 48) k_M_copy_48 rfl rfl ?_
                | refine T_ialdN (pc1 := 50) (pc := 49) k_M_copy_49 rfl (by first | exact ga G (by decide) rfl | assumption) (by omega) (by omega) (by first | assumption | (simp (disch := omega) only [pI_eq, pI_row, pI_col, va_up_self, va_up_ne, ne_eq, not_false_eq_true, hSo, h1, hk1] <;> rfl) | rfl) ?_
                | refine T_iald (pc1 := 50) (pc := 49) k_M_copy_49 rfl (by first | exact ga G (by decide) rfl | assumption) (by assumption) ?_
                | (with_reducible refine T_icmp_eqN (tgt := 56) (pc1 := 53) (pc := 50) k_M_copy_50 (by decide) (by decide) (by omega) (by omega) (fun hc => ?_) (fun hc => ?_) <;> first | (exfalso; omega) | skip)
                | refine T_icmp_eq_t (tgt := 56) (pc := 50) k_M_copy_50 rfl (by decide) ?_
                | refine T_icmp_eq_f (tgt := 56) (pc1 := 53) (pc := 50) k_M_copy_50 rfl rfl (by decide) ?_
                | refine T_icmp_eq (tgt := 56) (pc1 := 53) (pc := 50) k_M_copy_50 rfl rfl (fun hc => ?_) (fun hc => ?_)
                | refine T_ldc (v := (-1000000012)) (pc1 := 55) (pc := 53) k_M_copy_53 rfl c_M_155 ?_
                | refine T_retI (pc := 55) k_M_copy_55 rfl (by first | rfl | decide | assumption) ?_
                | refine T_iload_n (pc1 := 57) (pc := 56) k_M_copy_56 rfl rfl ?_
                | (with_reducible refine T_if_ltN (tgt := 105) (pc1 := 60) (pc := 57) k_M_copy_57 (by decide) (by decide) (by omega) ?_ <;> first | (exfalso; omega) | skip)
                | refine T_if_lt_t (tgt := 105) (pc := 57) k_M_copy_57 rfl (by decide) ?_
                | refine T_if_lt_f (tgt := 105) (pc1 := 60) (pc := 57) k_M_copy_57 rfl rfl (by decide) ?_
                | refine T_if_lt (tgt := 105) (pc1 := 60) (pc := 57) k_M_copy_57 rfl rfl (fun hc => ?_) (fun hc => ?_)
                | refine T_iload (pc1 := 62) (pc := 60) k_M_copy_60 rfl rfl ?_
                | (with_reducible refine T_if_ltN (tgt := 105) (pc1 := 65) (pc := 62) k_M_copy_62 (by decide) (by decide) (by omega) ?_ <;> first | (exfalso; omega) | skip)
                | refine T_if_lt_t (tgt := 105) (pc := 62) k_M_copy_62 rfl (by decide) ?_
                | refine T_if_lt_f (tgt := 105) (pc1 := 65) (pc := 62) k_M_copy_62 rfl rfl (by decide) ?_
                | refine T_if_lt (tgt := 105) (pc1 := 65) (pc := 62) k_M_copy_62 rfl rfl (fun hc => ?_) (fun hc => ?_)
                | refine T_iload (pc1 := 67) (pc := 65) k_M_copy_65 rfl rfl ?_
                | (with_reducible refine T_if_ltN (tgt := 105) (pc1 := 70) (pc := 67) k_M_copy_67 (by decide) (by decide) (by omega) ?_ <;> first | (exfalso; omega) | skip)
                | refine T_if_lt_t (tgt := 105) (pc := 67) k_M_copy_67 rfl (by decide) ?_
                | refine T_if_lt_f (tgt := 105) (pc1 := 70) (pc := 67) k_M_copy_67 rfl rfl (by decide) ?_
                | refine T_if_lt (tgt := 105) (pc1 := 70) (pc := 67) k_M_copy_67 rfl rfl (fun hc => ?_) (fun hc => ?_)
                | refine T_iload_n (pc1 := 71) (pc := 70) k_M_copy_70 rfl rfl ?_
                | refine T_i2l (pc1 := 72) (pc := 71) k_M_copy_71 rfl ?_
                | refine T_iload (pc1 := 74) (pc := 72) k_M_copy_72 rfl rfl ?_
                | refine T_i2l (pc1 := 75) (pc := 74) k_M_copy_74 rfl ?_
                | refine T_ladd (pc1 := 76) (pc := 75) k_M_copy_75 rfl ?_
                | refine T_aload_n (pc1 := 77) (pc := 76) k_M_copy_76 rfl rfl ?_
                | refine T_aload_nN (pc1 := 77) (pc := 76) k_M_copy_76 rfl rfl ?_
                | refine T_getR (pc1 := 80) (pc := 77) k_M_copy_77 rfl f_M_64 rfl (by first | exact ga G (by decide) rfl | assumption) (by first | exact gr G (by decide) rfl | assumption) ?_
                | refine T_iload_n (pc1 := 81) (pc := 80) k_M_copy_80 rfl rfl ?_
                | refine T_ialdN (pc1 := 82) (pc := 81) k_M_copy_81 rfl (by first | exact ga G (by decide) rfl | assumption) (by omega) (by omega) (by first | assumption | (simp (disch := omega) only [pI_eq, pI_row, pI_col, va_up_self, va_up_ne, ne_eq, not_false_eq_true, hSo, h1, hk1] <;> rfl) | rfl) ?_
                | refine T_iald (pc1 := 82) (pc := 81) k_M_copy_81 rfl (by first | exact ga G (by decide) rfl | assumption) (by assumption) ?_
                | refine T_i2l (pc1 := 83) (pc := 82) k_M_copy_82 rfl ?_
                | refine T_lcmp (pc1 := 84) (pc := 83) k_M_copy_83 rfl ?_
                | (with_reducible refine T_if_gtN (tgt := 105) (pc1 := 87) (pc := 84) k_M_copy_84 (by decide) (by decide) (by omega) (fun hc => ?_) (fun hc => ?_) <;> first | (exfalso; omega) | skip)
                | refine T_if_gt_t (tgt := 105) (pc := 84) k_M_copy_84 rfl (by decide) ?_
                | refine T_if_gt_f (tgt := 105) (pc1 := 87) (pc := 84) k_M_copy_84 rfl rfl (by decide) ?_
                | refine T_if_gt (tgt := 105) (pc1 := 87) (pc := 84) k_M_copy_84 rfl rfl (fun hc => ?_) (fun hc => ?_)
                | refine T_iload (pc1 := 89) (pc := 87) k_M_copy_87 rfl rfl ?_
                | refine T_i2l (pc1 := 90) (pc := 89) k_M_copy_89 rfl ?_
                | refine T_iload (pc1 := 92) (pc := 90) k_M_copy_90 rfl rfl ?_
                | refine T_i2l (pc1 := 93) (pc := 92) k_M_copy_92 rfl ?_
                | refine T_ladd (pc1 := 94) (pc := 93) k_M_copy_93 rfl ?_
                | refine T_aload_n (pc1 := 95) (pc := 94) k_M_copy_94 rfl rfl ?_
                | refine T_aload_nN (pc1 := 95) (pc := 94) k_M_copy_94 rfl rfl ?_
                | refine T_getR (pc1 := 98) (pc := 95) k_M_copy_95 rfl f_M_64 rfl (by first | exact ga G (by decide) rfl | assumption) (by first | exact gr G (by decide) rfl | assumption) ?_
                | refine T_iload_n (pc1 := 99) (pc := 98) k_M_copy_98 rfl rfl ?_
                | refine T_ialdN (pc1 := 100) (pc := 99) k_M_copy_99 rfl (by first | exact ga G (by decide) rfl | assumption) (by omega) (by omega) (by first | assumption | (simp (disch := omega) only [pI_eq, pI_row, pI_col, va_up_self, va_up_ne, ne_eq, not_false_eq_true, hSo, h1, hk1] <;> rfl) | rfl) ?_
                | refine T_iald (pc1 := 100) (pc := 99) k_M_copy_99 rfl (by first | exact ga G (by decide) rfl | assumption) (by assumption) ?_
                | refine T_i2l (pc1 := 101) (pc := 100) k_M_copy_100 rfl ?_
                | refine T_lcmp (pc1 := 102) (pc := 101) k_M_copy_101 rfl ?_
                | (with_reducible refine T_if_leN (tgt := 109) (pc1 := 105) (pc := 102) k_M_copy_102 (by decide) (by decide) (by omega) (fun hc => ?_) (fun hc => ?_) <;> first | (exfalso; omega) | skip)
                | refine T_if_le_t (tgt := 109) (pc := 102) k_M_copy_102 rfl (by decide) ?_
                | refine T_if_le_f (tgt := 109) (pc1 := 105) (pc := 102) k_M_copy_102 rfl rfl (by decide) ?_
                | refine T_if_le (tgt := 109) (pc1 := 105) (pc := 102) k_M_copy_102 rfl rfl (fun hc => ?_) (fun hc => ?_)
                | refine T_ldcw (v := (-1000000013)) (pc1 := 108) (pc := 105) k_M_copy_105 rfl c_M_297 ?_
                | refine T_retI (pc := 108) k_M_copy_108 rfl (by first | rfl | decide | assumption) ?_
                | refine T_iconst (v := (nI 0)) (pc1 := 110) (pc := 109) k_M_copy_109 rfl (by decide) ?_
                | refine T_istore (pc1 := 112) (pc := 110) k_M_copy_110 rfl (Nat.le_of_ble_eq_true rfl) ?_
                | refine T_iload (pc1 := 116) (pc := 114) k_M_copy_114 rfl rfl ?_
                | (with_reducible refine T_icmp_geN (tgt := 146) (pc1 := 119) (pc := 116) k_M_copy_116 (by decide) (by decide) (by omega) (by omega) (fun hc => ?_) (fun hc => ?_) <;> first | (exfalso; omega) | skip)
                | refine T_icmp_ge_t (tgt := 146) (pc := 116) k_M_copy_116 rfl (by decide) ?_
                | refine T_icmp_ge_f (tgt := 146) (pc1 := 119) (pc := 116) k_M_copy_116 rfl rfl (by decide) ?_
                | refine T_icmp_ge (tgt := 146) (pc1 := 119) (pc := 116) k_M_copy_116 rfl rfl (fun hc => ?_) (fun hc => ?_)
                | refine T_aload_n (pc1 := 120) (pc := 119) k_M_copy_119 rfl rfl ?_
                | refine T_aload_nN (pc1 := 120) (pc := 119) k_M_copy_119 rfl rfl ?_
                | refine T_getR (pc1 := 123) (pc := 120) k_M_copy_120 rfl f_M_70 rfl (by first | exact ga G (by decide) rfl | assumption) (by first | exact gr G (by decide) rfl | assumption) ?_
                | refine T_iload (pc1 := 125) (pc := 123) k_M_copy_123 rfl rfl ?_
                | refine T_aload_n (pc1 := 126) (pc := 125) k_M_copy_125 rfl rfl ?_
                | refine T_aload_nN (pc1 := 126) (pc := 125) k_M_copy_125 rfl rfl ?_
                | refine T_getR (pc1 := 129) (pc := 126) k_M_copy_126 rfl f_M_67 rfl (by first | exact ga G (by decide) rfl | assumption) (by first | exact gr G (by decide) rfl | assumption) ?_
                | refine T_bipush (v := (nI 24)) (pc1 := 131) (pc := 129) k_M_copy_129 rfl (by decide) ?_
                | refine T_iload_n (pc1 := 132) (pc := 131) k_M_copy_131 rfl rfl ?_
                | with_reducible refine T_imulN (pc1 := 133) (pc := 132) k_M_copy_132 (by decide) ?_
                | refine T_imul (pc1 := 133) (pc := 132) k_M_copy_132 rfl ?_
                | refine T_iload_n (pc1 := 134) (pc := 133) k_M_copy_133 rfl rfl ?_
                | with_reducible refine T_iaddN (pc1 := 135) (pc := 134) k_M_copy_134 (by decide) ?_
                | refine T_iadd (pc1 := 135) (pc := 134) k_M_copy_134 rfl ?_
                | refine T_iload (pc1 := 137) (pc := 135) k_M_copy_135 rfl rfl ?_
                | with_reducible refine T_iaddN (pc1 := 138) (pc := 137) k_M_copy_137 (by decide) ?_
                | refine T_iadd (pc1 := 138) (pc := 137) k_M_copy_137 rfl ?_
                | refine T_ialdN (pc1 := 139) (pc := 138) k_M_copy_138 rfl (by first | exact ga G (by decide) rfl | assumption) (by omega) (by omega) (by first | assumption | (simp (disch := omega) only [pI_eq, pI_row, pI_col, va_up_self, va_up_ne, ne_eq, not_false_eq_true, hSo, h1, hk1] <;> rfl) | rfl) ?_
                | refine T_iald (pc1 := 139) (pc := 138) k_M_copy_138 rfl (by first | exact ga G (by decide) rfl | assumption) (by assumption) ?_
                | refine T_iastN (pc1 := 140) (pc := 139) k_M_copy_139 rfl (by first | exact ga G (by decide) rfl | assumption) (by omega) (by omega) ?_
                | refine T_iincN (b := 1) (pc1 := 143) (pc := 140) k_M_copy_140 rfl rfl (by decide) ?_
                | refine T_iinc (v := (nI 1)) (pc1 := 143) (pc := 140) k_M_copy_140 rfl rfl (by decide) ?_
                | refine T_goto (tgt := 112) (pc := 143) k_M_copy_143 rfl ?_
                | refine T_iconst (v := (nI 0)) (pc1 := 147) (pc := 146) k_M_copy_146 rfl (by decide) ?_
                | refine T_istore (pc1 := 149) (pc := 147) k_M_copy_147 rfl (Nat.le_of_ble_eq_true rfl) ?_
                | refine T_iload (pc1 := 151) (pc := 149) k_M_copy_149 rfl rfl ?_
                | refine T_iload (pc1 := 153) (pc := 151) k_M_copy_151 rfl rfl ?_
                | (with_reducible refine T_icmp_geN (tgt := 184) (pc1 := 156) (pc := 153) k_M_copy_153 (by decide) (by decide) (by omega) (by omega) (fun hc => ?_) (fun hc => ?_) <;> first | (exfalso; omega) | skip)
                | refine T_icmp_ge_t (tgt := 184) (pc := 153) k_M_copy_153 rfl (by decide) ?_
                | refine T_icmp_ge_f (tgt := 184) (pc1 := 156) (pc := 153) k_M_copy_153 rfl rfl (by decide) ?_
                | refine T_icmp_ge (tgt := 184) (pc1 := 156) (pc := 153) k_M_copy_153 rfl rfl (fun hc => ?_) (fun hc => ?_)
                | refine T_aload_n (pc1 := 157) (pc := 156) k_M_copy_156 rfl rfl ?_
                | refine T_aload_nN (pc1 := 157) (pc := 156) k_M_copy_156 rfl rfl ?_
                | refine T_getR (pc1 := 160) (pc := 157) k_M_copy_157 rfl f_M_67 rfl (by first | exact ga G (by decide) rfl | assumption) (by first | exact gr G (by decide) rfl | assumption) ?_
                | refine T_bipush (v := (nI 24)) (pc1 := 162) (pc := 160) k_M_copy_160 rfl (by decide) ?_
                | refine T_iload_n (pc1 := 163) (pc := 162) k_M_copy_162 rfl rfl ?_
                | with_reducible refine T_imulN (pc1 := 164) (pc := 163) k_M_copy_163 (by decide) ?_
                | refine T_imul (pc1 := 164) (pc := 163) k_M_copy_163 rfl ?_
                | refine T_iload (pc1 := 166) (pc := 164) k_M_copy_164 rfl rfl ?_
                | with_reducible refine T_iaddN (pc1 := 167) (pc := 166) k_M_copy_166 (by decide) ?_
                | refine T_iadd (pc1 := 167) (pc := 166) k_M_copy_166 rfl ?_
                | refine T_iload (pc1 := 169) (pc := 167) k_M_copy_167 rfl rfl ?_
                | with_reducible refine T_iaddN (pc1 := 170) (pc := 169) k_M_copy_169 (by decide) ?_
                | refine T_iadd (pc1 := 170) (pc := 169) k_M_copy_169 rfl ?_
                | refine T_aload_n (pc1 := 171) (pc := 170) k_M_copy_170 rfl rfl ?_
                | refine T_aload_nN (pc1 := 171) (pc := 170) k_M_copy_170 rfl rfl ?_
                | refine T_getR (pc1 := 174) (pc := 171) k_M_copy_171 rfl f_M_70 rfl (by first | exact ga G (by decide) rfl | assumption) (by first | exact gr G (by decide) rfl | assumption) ?_
                | refine T_iload (pc1 := 176) (pc := 174) k_M_copy_174 rfl rfl ?_
                | refine T_ialdN (pc1 := 177) (pc := 176) k_M_copy_176 rfl (by first | exact ga G (by decide) rfl | assumption) (by omega) (by omega) (by first | assumption | (simp (disch := omega) only [pI_eq, pI_row, pI_col, va_up_self, va_up_ne, ne_eq, not_false_eq_true, hSo, h1, hk1] <;> rfl) | rfl) ?_
                | refine T_iald (pc1 := 177) (pc := 176) k_M_copy_176 rfl (by first | exact ga G (by decide) rfl | assumption) (by assumption) ?_
                | refine T_iastN (pc1 := 178) (pc := 177) k_M_copy_177 rfl (by first | exact ga G (by decide) rfl | assumption) (by omega) (by omega) ?_
                | refine T_iincN (b := 1) (pc1 := 181) (pc := 178) k_M_copy_178 rfl rfl (by decide) ?_
                | refine T_iinc (v := (nI 1)) (pc1 := 181) (pc := 178) k_M_copy_178 rfl rfl (by decide) ?_
                | refine T_goto (tgt := 149) (pc := 181) k_M_copy_181 rfl ?_
                | refine T_iload (pc1 := 186) (pc := 184) k_M_copy_184 rfl rfl ?_
                | refine T_retI (pc := 186) k_M_copy_186 rfl (by first | rfl | decide | assumption) ?_)
              refine ih (i + 1) _ (by omega) (eqx_pI hJ _ (by decide)) (fun x hx => ?_) ((pI_rw (by decide)).trans h116)
              rw [pI_self]
              by_cases h : x = i
              · subst h; rw [va_up_self]
              · rw [va_up_ne _ _ h]; exact h117 x (by omega)
          rcases h1 with h1 | h1
          all_goals
            have h3 := hkd.symm.trans h1
            repeat' (first
              | refine T_iload_n (pc1 := 1) (pc := 0) k_M_copy_0 rfl rfl ?_
              | (refine T_cS (As := [_]) (d1 := 2) (pc1 := 4) (pc := 1) k_M_copy_1 rfl (by decide) (Nat.le_of_ble_eq_true rfl) rfl o_M_isSheet l_M_193 rfl (c_M_isSheet (fun hw => ?_) (fun hw => ?_)) <;> try dsimp only [psh])
              | (with_reducible refine T_if_eqN (tgt := 14) (pc1 := 7) (pc := 4) k_M_copy_4 (by decide) (by decide) (by omega) (fun hc => ?_) (fun hc => ?_) <;> first | (exfalso; omega) | skip)
              | refine T_if_eq_t (tgt := 14) (pc := 4) k_M_copy_4 rfl (by decide) ?_
              | refine T_if_eq_f (tgt := 14) (pc1 := 7) (pc := 4) k_M_copy_4 rfl rfl (by decide) ?_
              | refine T_if_eq (tgt := 14) (pc1 := 7) (pc := 4) k_M_copy_4 rfl rfl (fun hc => ?_) (fun hc => ?_)
              | refine T_iload_n (pc1 := 8) (pc := 7) k_M_copy_7 rfl rfl ?_
              | (refine T_cS (As := [_]) (d1 := 2) (pc1 := 11) (pc := 8) k_M_copy_8 rfl (by decide) (Nat.le_of_ble_eq_true rfl) rfl o_M_isSheet l_M_193 rfl (c_M_isSheet (fun hw => ?_) (fun hw => ?_)) <;> try dsimp only [psh])
              | (with_reducible refine T_if_neN (tgt := 17) (pc1 := 14) (pc := 11) k_M_copy_11 (by decide) (by decide) (by omega) (fun hc => ?_) (fun hc => ?_) <;> first | (exfalso; omega) | skip)
              | refine T_if_ne_t (tgt := 17) (pc := 11) k_M_copy_11 rfl (by decide) ?_
              | refine T_if_ne_f (tgt := 17) (pc1 := 14) (pc := 11) k_M_copy_11 rfl rfl (by decide) ?_
              | refine T_if_ne (tgt := 17) (pc1 := 14) (pc := 11) k_M_copy_11 rfl rfl (fun hc => ?_) (fun hc => ?_)
              | refine T_ldc (v := (-1000000001)) (pc1 := 16) (pc := 14) k_M_copy_14 rfl c_M_111 ?_
              | refine T_retI (pc := 16) k_M_copy_16 rfl (by first | rfl | decide | assumption) ?_
              | refine T_aload_n (pc1 := 18) (pc := 17) k_M_copy_17 rfl rfl ?_
              | refine T_aload_nN (pc1 := 18) (pc := 17) k_M_copy_17 rfl rfl ?_
              | refine T_getR (pc1 := 21) (pc := 18) k_M_copy_18 rfl f_M_61 rfl (by first | exact ga G (by decide) rfl | assumption) (by first | exact gr G (by decide) rfl | assumption) ?_
              | refine T_iload_n (pc1 := 22) (pc := 21) k_M_copy_21 rfl rfl ?_
              | refine T_ialdN (pc1 := 23) (pc := 22) k_M_copy_22 rfl (by first | exact ga G (by decide) rfl | assumption) (by omega) (by omega) (by first | assumption | (simp (disch := omega) only [pI_eq, pI_row, pI_col, va_up_self, va_up_ne, ne_eq, not_false_eq_true, hSo, hSi, h1, h2, h3, h4] <;> rfl) | rfl) ?_
              | refine T_iald (pc1 := 23) (pc := 22) k_M_copy_22 rfl (by first | exact ga G (by decide) rfl | assumption) (by assumption) ?_
              | (with_reducible refine T_if_ltN (tgt := 35) (pc1 := 26) (pc := 23) k_M_copy_23 (by decide) (by decide) (by omega) ?_ <;> first | (exfalso; omega) | skip)
              | refine T_if_lt_t (tgt := 35) (pc := 23) k_M_copy_23 rfl (by decide) ?_
              | refine T_if_lt_f (tgt := 35) (pc1 := 26) (pc := 23) k_M_copy_23 rfl rfl (by decide) ?_
              | refine T_if_lt (tgt := 35) (pc1 := 26) (pc := 23) k_M_copy_23 rfl rfl (fun hc => ?_) (fun hc => ?_)
              | refine T_aload_n (pc1 := 27) (pc := 26) k_M_copy_26 rfl rfl ?_
              | refine T_aload_nN (pc1 := 27) (pc := 26) k_M_copy_26 rfl rfl ?_
              | refine T_getR (pc1 := 30) (pc := 27) k_M_copy_27 rfl f_M_61 rfl (by first | exact ga G (by decide) rfl | assumption) (by first | exact gr G (by decide) rfl | assumption) ?_
              | refine T_iload_n (pc1 := 31) (pc := 30) k_M_copy_30 rfl rfl ?_
              | refine T_ialdN (pc1 := 32) (pc := 31) k_M_copy_31 rfl (by first | exact ga G (by decide) rfl | assumption) (by omega) (by omega) (by first | assumption | (simp (disch := omega) only [pI_eq, pI_row, pI_col, va_up_self, va_up_ne, ne_eq, not_false_eq_true, hSo, hSi, h1, h2, h3, h4] <;> rfl) | rfl) ?_
              | refine T_iald (pc1 := 32) (pc := 31) k_M_copy_31 rfl (by first | exact ga G (by decide) rfl | assumption) (by assumption) ?_
              | (with_reducible refine T_if_geN (tgt := 38) (pc1 := 35) (pc := 32) k_M_copy_32 (by decide) (by decide) (by omega) ?_ <;> first | (exfalso; omega) | skip)
              | refine T_if_ge_t (tgt := 38) (pc := 32) k_M_copy_32 rfl (by decide) ?_
              | refine T_if_ge_f (tgt := 38) (pc1 := 35) (pc := 32) k_M_copy_32 rfl rfl (by decide) ?_
              | refine T_if_ge (tgt := 38) (pc1 := 35) (pc := 32) k_M_copy_32 rfl rfl (fun hc => ?_) (fun hc => ?_)
              | refine T_ldc (v := (-1000000011)) (pc1 := 37) (pc := 35) k_M_copy_35 rfl c_M_196 ?_
              | refine T_retI (pc := 37) k_M_copy_37 rfl (by first | rfl | decide | assumption) ?_
              | refine T_aload_n (pc1 := 39) (pc := 38) k_M_copy_38 rfl rfl ?_
              | refine T_aload_nN (pc1 := 39) (pc := 38) k_M_copy_38 rfl rfl ?_
              | refine T_getR (pc1 := 42) (pc := 39) k_M_copy_39 rfl f_M_61 rfl (by first | exact ga G (by decide) rfl | assumption) (by first | exact gr G (by decide) rfl | assumption) ?_
              | refine T_iload_n (pc1 := 43) (pc := 42) k_M_copy_42 rfl rfl ?_
              | refine T_ialdN (pc1 := 44) (pc := 43) k_M_copy_43 rfl (by first | exact ga G (by decide) rfl | assumption) (by omega) (by omega) (by first | assumption | (simp (disch := omega) only [pI_eq, pI_row, pI_col, va_up_self, va_up_ne, ne_eq, not_false_eq_true, hSo, hSi, h1, h2, h3, h4] <;> rfl) | rfl) ?_
              | refine T_iald (pc1 := 44) (pc := 43) k_M_copy_43 rfl (by first | exact ga G (by decide) rfl | assumption) (by assumption) ?_
              | refine T_aload_n (pc1 := 45) (pc := 44) k_M_copy_44 rfl rfl ?_
              | refine T_aload_nN (pc1 := 45) (pc := 44) k_M_copy_44 rfl rfl ?_
              | refine T_getR (pc1 := 48) (pc := 45) k_M_copy_45 rfl f_M_61 rfl (by first | exact ga G (by decide) rfl | assumption) (by first | exact gr G (by decide) rfl | assumption) ?_
              | refine T_iload_n (pc1 := 49) (pc := 48) k_M_copy_48 rfl rfl ?_
              | refine T_ialdN (pc1 := 50) (pc := 49) k_M_copy_49 rfl (by first | exact ga G (by decide) rfl | assumption) (by omega) (by omega) (by first | assumption | (simp (disch := omega) only [pI_eq, pI_row, pI_col, va_up_self, va_up_ne, ne_eq, not_false_eq_true, hSo, hSi, h1, h2, h3, h4] <;> rfl) | rfl) ?_
              | refine T_iald (pc1 := 50) (pc := 49) k_M_copy_49 rfl (by first | exact ga G (by decide) rfl | assumption) (by assumption) ?_
              | (with_reducible refine T_icmp_eqN (tgt := 56) (pc1 := 53) (pc := 50) k_M_copy_50 (by decide) (by decide) (by omega) (by omega) (fun hc => ?_) (fun hc => ?_) <;> first | (exfalso; omega) | skip)
              | refine T_icmp_eq_t (tgt := 56) (pc := 50) k_M_copy_50 rfl (by decide) ?_
              | refine T_icmp_eq_f (tgt := 56) (pc1 := 53) (pc := 50) k_M_copy_50 rfl rfl (by decide) ?_
              | refine T_icmp_eq (tgt := 56) (pc1 := 53) (pc := 50) k_M_copy_50 rfl rfl (fun hc => ?_) (fun hc => ?_)
              | refine T_ldc (v := (-1000000012)) (pc1 := 55) (pc := 53) k_M_copy_53 rfl c_M_155 ?_
              | refine T_retI (pc := 55) k_M_copy_55 rfl (by first | rfl | decide | assumption) ?_
              | refine T_iload_n (pc1 := 57) (pc := 56) k_M_copy_56 rfl rfl ?_
              | (with_reducible refine T_if_ltN (tgt := 105) (pc1 := 60) (pc := 57) k_M_copy_57 (by decide) (by decide) (by omega) ?_ <;> first | (exfalso; omega) | skip)
              | refine T_if_lt_t (tgt := 105) (pc := 57) k_M_copy_57 rfl (by decide) ?_
              | refine T_if_lt_f (tgt := 105) (pc1 := 60) (pc := 57) k_M_copy_57 rfl rfl (by decide) ?_
              | refine T_if_lt (tgt := 105) (pc1 := 60) (pc := 57) k_M_copy_57 rfl rfl (fun hc => ?_) (fun hc => ?_)
              | refine T_iload (pc1 := 62) (pc := 60) k_M_copy_60 rfl rfl ?_
              | (with_reducible refine T_if_ltN (tgt := 105) (pc1 := 65) (pc := 62) k_M_copy_62 (by decide) (by decide) (by omega) ?_ <;> first | (exfalso; omega) | skip)
              | refine T_if_lt_t (tgt := 105) (pc := 62) k_M_copy_62 rfl (by decide) ?_
              | refine T_if_lt_f (tgt := 105) (pc1 := 65) (pc := 62) k_M_copy_62 rfl rfl (by decide) ?_
              | refine T_if_lt (tgt := 105) (pc1 := 65) (pc := 62) k_M_copy_62 rfl rfl (fun hc => ?_) (fun hc => ?_)
              | refine T_iload (pc1 := 67) (pc := 65) k_M_copy_65 rfl rfl ?_
              | (with_reducible refine T_if_ltN (tgt := 105) (pc1 := 70) (pc := 67) k_M_copy_67 (by decide) (by decide) (by omega) ?_ <;> first | (exfalso; omega) | skip)
              | refine T_if_lt_t (tgt := 105) (pc := 67) k_M_copy_67 rfl (by decide) ?_
              | refine T_if_lt_f (tgt := 105) (pc1 := 70) (pc := 67) k_M_copy_67 rfl rfl (by decide) ?_
              | refine T_if_lt (tgt := 105) (pc1 := 70) (pc := 67) k_M_copy_67 rfl rfl (fun hc => ?_) (fun hc => ?_)
              | refine T_iload_n (pc1 := 71) (pc := 70) k_M_copy_70 rfl rfl ?_
              | refine T_i2l (pc1 := 72) (pc := 71) k_M_copy_71 rfl ?_
              | refine T_iload (pc1 := 74) (pc := 72) k_M_copy_72 rfl rfl ?_
              | refine T_i2l (pc1 := 75) (pc := 74) k_M_copy_74 rfl ?_
              | refine T_ladd (pc1 := 76) (pc := 75) k_M_copy_75 rfl ?_
              | refine T_aload_n (pc1 := 77) (pc := 76) k_M_copy_76 rfl rfl ?_
              | refine T_aload_nN (pc1 := 77) (pc := 76) k_M_copy_76 rfl rfl ?_
              | refine T_getR (pc1 := 80) (pc := 77) k_M_copy_77 rfl f_M_64 rfl (by first | exact ga G (by decide) rfl | assumption) (by first | exact gr G (by decide) rfl | assumption) ?_
              | refine T_iload_n (pc1 := 81) (pc := 80) k_M_copy_80 rfl rfl ?_
              | refine T_ialdN (pc1 := 82) (pc := 81) k_M_copy_81 rfl (by first | exact ga G (by decide) rfl | assumption) (by omega) (by omega) (by first | assumption | (simp (disch := omega) only [pI_eq, pI_row, pI_col, va_up_self, va_up_ne, ne_eq, not_false_eq_true, hSo, hSi, h1, h2, h3, h4] <;> rfl) | rfl) ?_
              | refine T_iald (pc1 := 82) (pc := 81) k_M_copy_81 rfl (by first | exact ga G (by decide) rfl | assumption) (by assumption) ?_
              | refine T_i2l (pc1 := 83) (pc := 82) k_M_copy_82 rfl ?_
              | refine T_lcmp (pc1 := 84) (pc := 83) k_M_copy_83 rfl ?_
              | refine T_if_gt (tgt := 105) (pc1 := 87) (pc := 84) k_M_copy_84 rfl rfl (fun hc => absurd l1 (Int32.not_le.mpr hc)) (fun hc => ?_)
              | refine T_iload (pc1 := 89) (pc := 87) k_M_copy_87 rfl rfl ?_
              | refine T_i2l (pc1 := 90) (pc := 89) k_M_copy_89 rfl ?_
              | refine T_iload (pc1 := 92) (pc := 90) k_M_copy_90 rfl rfl ?_
              | refine T_i2l (pc1 := 93) (pc := 92) k_M_copy_92 rfl ?_
              | refine T_ladd (pc1 := 94) (pc := 93) k_M_copy_93 rfl ?_
              | refine T_aload_n (pc1 := 95) (pc := 94) k_M_copy_94 rfl rfl ?_
              | refine T_aload_nN (pc1 := 95) (pc := 94) k_M_copy_94 rfl rfl ?_
              | refine T_getR (pc1 := 98) (pc := 95) k_M_copy_95 rfl f_M_64 rfl (by first | exact ga G (by decide) rfl | assumption) (by first | exact gr G (by decide) rfl | assumption) ?_
              | refine T_iload_n (pc1 := 99) (pc := 98) k_M_copy_98 rfl rfl ?_
              | refine T_ialdN (pc1 := 100) (pc := 99) k_M_copy_99 rfl (by first | exact ga G (by decide) rfl | assumption) (by omega) (by omega) (by first | assumption | (simp (disch := omega) only [pI_eq, pI_row, pI_col, va_up_self, va_up_ne, ne_eq, not_false_eq_true, hSo, hSi, h1, h2, h3, h4] <;> rfl) | rfl) ?_
              | refine T_iald (pc1 := 100) (pc := 99) k_M_copy_99 rfl (by first | exact ga G (by decide) rfl | assumption) (by assumption) ?_
              | refine T_i2l (pc1 := 101) (pc := 100) k_M_copy_100 rfl ?_
              | refine T_lcmp (pc1 := 102) (pc := 101) k_M_copy_101 rfl ?_
              | refine T_if_le (tgt := 109) (pc1 := 105) (pc := 102) k_M_copy_102 rfl rfl (fun hc => ?_) (fun hc => absurd l2 hc)
              | refine T_ldcw (v := (-1000000013)) (pc1 := 108) (pc := 105) k_M_copy_105 rfl c_M_297 ?_
              | refine T_retI (pc := 108) k_M_copy_108 rfl (by first | rfl | decide | assumption) ?_
              | refine T_iconst (v := (nI 0)) (pc1 := 110) (pc := 109) k_M_copy_109 rfl (by decide) ?_
              | refine T_istore (pc1 := 112) (pc := 110) k_M_copy_110 rfl (Nat.le_of_ble_eq_true rfl) ?_
              | refine T_iload (pc1 := 116) (pc := 114) k_M_copy_114 rfl rfl ?_
              | (with_reducible refine T_icmp_geN (tgt := 146) (pc1 := 119) (pc := 116) k_M_copy_116 (by decide) (by decide) (by omega) (by omega) (fun hc => ?_) (fun hc => ?_) <;> first | (exfalso; omega) | skip)
              | refine T_icmp_ge_t (tgt := 146) (pc := 116) k_M_copy_116 rfl (by decide) ?_
              | refine T_icmp_ge_f (tgt := 146) (pc1 := 119) (pc := 116) k_M_copy_116 rfl rfl (by decide) ?_
              | refine T_icmp_ge (tgt := 146) (pc1 := 119) (pc := 116) k_M_copy_116 rfl rfl (fun hc => ?_) (fun hc => ?_)
              | refine T_aload_n (pc1 := 120) (pc := 119) k_M_copy_119 rfl rfl ?_
              | refine T_aload_nN (pc1 := 120) (pc := 119) k_M_copy_119 rfl rfl ?_
              | refine T_getR (pc1 := 123) (pc := 120) k_M_copy_120 rfl f_M_70 rfl (by first | exact ga G (by decide) rfl | assumption) (by first | exact gr G (by decide) rfl | assumption) ?_
              | refine T_iload (pc1 := 125) (pc := 123) k_M_copy_123 rfl rfl ?_
              | refine T_aload_n (pc1 := 126) (pc := 125) k_M_copy_125 rfl rfl ?_
              | refine T_aload_nN (pc1 := 126) (pc := 125) k_M_copy_125 rfl rfl ?_
              | refine T_getR (pc1 := 129) (pc := 126) k_M_copy_126 rfl f_M_67 rfl (by first | exact ga G (by decide) rfl | assumption) (by first | exact gr G (by decide) rfl | assumption) ?_
              | refine T_bipush (v := (nI 24)) (pc1 := 131) (pc := 129) k_M_copy_129 rfl (by decide) ?_
              | refine T_iload_n (pc1 := 132) (pc := 131) k_M_copy_131 rfl rfl ?_
              | with_reducible refine T_imulN (pc1 := 133) (pc := 132) k_M_copy_132 (by decide) ?_
              | refine T_imul (pc1 := 133) (pc := 132) k_M_copy_132 rfl ?_
              | refine T_iload_n (pc1 := 134) (pc := 133) k_M_copy_133 rfl rfl ?_
              | with_reducible refine T_iaddN (pc1 := 135) (pc := 134) k_M_copy_134 (by decide) ?_
              | refine T_iadd (pc1 := 135) (pc := 134) k_M_copy_134 rfl ?_
              | refine T_iload (pc1 := 137) (pc := 135) k_M_copy_135 rfl rfl ?_
              | with_reducible refine T_iaddN (pc1 := 138) (pc := 137) k_M_copy_137 (by decide) ?_
              | refine T_iadd (pc1 := 138) (pc := 137) k_M_copy_137 rfl ?_
              | refine T_ialdN (pc1 := 139) (pc := 138) k_M_copy_138 rfl (by first | exact ga G (by decide) rfl | assumption) (by omega) (by omega) (by first | assumption | (simp (disch := omega) only [pI_eq, pI_row, pI_col, va_up_self, va_up_ne, ne_eq, not_false_eq_true, hSo, hSi, h1, h2, h3, h4] <;> rfl) | rfl) ?_
              | refine T_iald (pc1 := 139) (pc := 138) k_M_copy_138 rfl (by first | exact ga G (by decide) rfl | assumption) (by assumption) ?_
              | refine T_iastN (pc1 := 140) (pc := 139) k_M_copy_139 rfl (by first | exact ga G (by decide) rfl | assumption) (by omega) (by omega) ?_
              | refine T_iincN (b := 1) (pc1 := 143) (pc := 140) k_M_copy_140 rfl rfl (by decide) ?_
              | refine T_iinc (v := (nI 1)) (pc1 := 143) (pc := 140) k_M_copy_140 rfl rfl (by decide) ?_
              | refine T_goto (tgt := 112) (pc := 143) k_M_copy_143 rfl ?_
              | refine T_iconst (v := (nI 0)) (pc1 := 147) (pc := 146) k_M_copy_146 rfl (by decide) ?_
              | refine T_istore (pc1 := 149) (pc := 147) k_M_copy_147 rfl (Nat.le_of_ble_eq_true rfl) ?_
              | refine T_iload (pc1 := 151) (pc := 149) k_M_copy_149 rfl rfl ?_
              | refine T_iload (pc1 := 153) (pc := 151) k_M_copy_151 rfl rfl ?_
              | (with_reducible refine T_icmp_geN (tgt := 184) (pc1 := 156) (pc := 153) k_M_copy_153 (by decide) (by decide) (by omega) (by omega) (fun hc => ?_) (fun hc => ?_) <;> first | (exfalso; omega) | skip)
              | refine T_icmp_ge_t (tgt := 184) (pc := 153) k_M_copy_153 rfl (by decide) ?_
              | refine T_icmp_ge_f (tgt := 184) (pc1 := 156) (pc := 153) k_M_copy_153 rfl rfl (by decide) ?_
              | refine T_icmp_ge (tgt := 184) (pc1 := 156) (pc := 153) k_M_copy_153 rfl rfl (fun hc => ?_) (fun hc => ?_)
              | refine T_aload_n (pc1 := 157) (pc := 156) k_M_copy_156 rfl rfl ?_
              | refine T_aload_nN (pc1 := 157) (pc := 156) k_M_copy_156 rfl rfl ?_
              | refine T_getR (pc1 := 160) (pc := 157) k_M_copy_157 rfl f_M_67 rfl (by first | exact ga G (by decide) rfl | assumption) (by first | exact gr G (by decide) rfl | assumption) ?_
              | refine T_bipush (v := (nI 24)) (pc1 := 162) (pc := 160) k_M_copy_160 rfl (by decide) ?_
              | refine T_iload_n (pc1 := 163) (pc := 162) k_M_copy_162 rfl rfl ?_
              | with_reducible refine T_imulN (pc1 := 164) (pc := 163) k_M_copy_163 (by decide) ?_
              | refine T_imul (pc1 := 164) (pc := 163) k_M_copy_163 rfl ?_
              | refine T_iload (pc1 := 166) (pc := 164) k_M_copy_164 rfl rfl ?_
              | with_reducible refine T_iaddN (pc1 := 167) (pc := 166) k_M_copy_166 (by decide) ?_
              | refine T_iadd (pc1 := 167) (pc := 166) k_M_copy_166 rfl ?_
              | refine T_iload (pc1 := 169) (pc := 167) k_M_copy_167 rfl rfl ?_
              | with_reducible refine T_iaddN (pc1 := 170) (pc := 169) k_M_copy_169 (by decide) ?_
              | refine T_iadd (pc1 := 170) (pc := 169) k_M_copy_169 rfl ?_
              | refine T_aload_n (pc1 := 171) (pc := 170) k_M_copy_170 rfl rfl ?_
              | refine T_aload_nN (pc1 := 171) (pc := 170) k_M_copy_170 rfl rfl ?_
              | refine T_getR (pc1 := 174) (pc := 171) k_M_copy_171 rfl f_M_70 rfl (by first | exact ga G (by decide) rfl | assumption) (by first | exact gr G (by decide) rfl | assumption) ?_
              | refine T_iload (pc1 := 176) (pc := 174) k_M_copy_174 rfl rfl ?_
              | refine T_ialdN (pc1 := 177) (pc := 176) k_M_copy_176 rfl (by first | exact ga G (by decide) rfl | assumption) (by omega) (by omega) (by first | assumption | (simp (disch := omega) only [pI_eq, pI_row, pI_col, va_up_self, va_up_ne, ne_eq, not_false_eq_true, hSo, hSi, h1, h2, h3, h4] <;> rfl) | rfl) ?_
              | refine T_iald (pc1 := 177) (pc := 176) k_M_copy_176 rfl (by first | exact ga G (by decide) rfl | assumption) (by assumption) ?_
              | refine T_iastN (pc1 := 178) (pc := 177) k_M_copy_177 rfl (by first | exact ga G (by decide) rfl | assumption) (by omega) (by omega) ?_
              | refine T_iincN (b := 1) (pc1 := 181) (pc := 178) k_M_copy_178 rfl rfl (by decide) ?_
              | refine T_iinc (v := (nI 1)) (pc1 := 181) (pc := 178) k_M_copy_178 rfl rfl (by decide) ?_
              | refine T_goto (tgt := 149) (pc := 181) k_M_copy_181 rfl ?_
              | refine T_iload (pc1 := 186) (pc := 184) k_M_copy_184 rfl rfl ?_
              | refine T_retI (pc := 186) k_M_copy_186 rfl (by first | rfl | decide | assumption) ?_)
            all_goals first | exact loop1 m 0 _ (by omega) eqx_rf (fun x hx => absurd hx (Nat.not_lt_zero _)) hPl | contradiction
        · obtain ⟨kA, kP⟩ := copy_ix (So := So) (Si := Si) (Pl := Pl) (p := p) (a := a) (m := m) hj hk hno hkd hr
          rw [kA, kP] at kk
          have kk := kk I _ eqx_rf hPl rfl
          have ez := nI_toInt (n := z) (by omega)
          have ey := nI_toInt (n := y) (by omega)
          rw [okRow, okRow, h2, h4, ez, ey] at hr
          have l1 := @lcmp_le p m (nI z)
          have l2 := @lcmp_le a m (nI y)
          rw [ez] at l1
          rw [ey] at l2
          rcases h1 with h1 | h1
          all_goals
            have h3 := hkd.symm.trans h1
            repeat' (first
              | refine T_iload_n (pc1 := 1) (pc := 0) k_M_copy_0 rfl rfl ?_
              | (refine T_cS (As := [_]) (d1 := 2) (pc1 := 4) (pc := 1) k_M_copy_1 rfl (by decide) (Nat.le_of_ble_eq_true rfl) rfl o_M_isSheet l_M_193 rfl (c_M_isSheet (fun hw => ?_) (fun hw => ?_)) <;> try dsimp only [psh])
              | (with_reducible refine T_if_eqN (tgt := 14) (pc1 := 7) (pc := 4) k_M_copy_4 (by decide) (by decide) (by omega) (fun hc => ?_) (fun hc => ?_) <;> first | (exfalso; omega) | skip)
              | refine T_if_eq_t (tgt := 14) (pc := 4) k_M_copy_4 rfl (by decide) ?_
              | refine T_if_eq_f (tgt := 14) (pc1 := 7) (pc := 4) k_M_copy_4 rfl rfl (by decide) ?_
              | refine T_if_eq (tgt := 14) (pc1 := 7) (pc := 4) k_M_copy_4 rfl rfl (fun hc => ?_) (fun hc => ?_)
              | refine T_iload_n (pc1 := 8) (pc := 7) k_M_copy_7 rfl rfl ?_
              | (refine T_cS (As := [_]) (d1 := 2) (pc1 := 11) (pc := 8) k_M_copy_8 rfl (by decide) (Nat.le_of_ble_eq_true rfl) rfl o_M_isSheet l_M_193 rfl (c_M_isSheet (fun hw => ?_) (fun hw => ?_)) <;> try dsimp only [psh])
              | (with_reducible refine T_if_neN (tgt := 17) (pc1 := 14) (pc := 11) k_M_copy_11 (by decide) (by decide) (by omega) (fun hc => ?_) (fun hc => ?_) <;> first | (exfalso; omega) | skip)
              | refine T_if_ne_t (tgt := 17) (pc := 11) k_M_copy_11 rfl (by decide) ?_
              | refine T_if_ne_f (tgt := 17) (pc1 := 14) (pc := 11) k_M_copy_11 rfl rfl (by decide) ?_
              | refine T_if_ne (tgt := 17) (pc1 := 14) (pc := 11) k_M_copy_11 rfl rfl (fun hc => ?_) (fun hc => ?_)
              | refine T_ldc (v := (-1000000001)) (pc1 := 16) (pc := 14) k_M_copy_14 rfl c_M_111 ?_
              | refine T_retI (pc := 16) k_M_copy_16 rfl (by first | rfl | decide | assumption) ?_
              | refine T_aload_n (pc1 := 18) (pc := 17) k_M_copy_17 rfl rfl ?_
              | refine T_aload_nN (pc1 := 18) (pc := 17) k_M_copy_17 rfl rfl ?_
              | refine T_getR (pc1 := 21) (pc := 18) k_M_copy_18 rfl f_M_61 rfl (by first | exact ga G (by decide) rfl | assumption) (by first | exact gr G (by decide) rfl | assumption) ?_
              | refine T_iload_n (pc1 := 22) (pc := 21) k_M_copy_21 rfl rfl ?_
              | refine T_ialdN (pc1 := 23) (pc := 22) k_M_copy_22 rfl (by first | exact ga G (by decide) rfl | assumption) (by omega) (by omega) (by first | assumption | (simp (disch := omega) only [pI_eq, pI_row, pI_col, va_up_self, va_up_ne, ne_eq, not_false_eq_true, hSo, hSi, h1, h2, h3, h4] <;> rfl) | rfl) ?_
              | refine T_iald (pc1 := 23) (pc := 22) k_M_copy_22 rfl (by first | exact ga G (by decide) rfl | assumption) (by assumption) ?_
              | (with_reducible refine T_if_ltN (tgt := 35) (pc1 := 26) (pc := 23) k_M_copy_23 (by decide) (by decide) (by omega) ?_ <;> first | (exfalso; omega) | skip)
              | refine T_if_lt_t (tgt := 35) (pc := 23) k_M_copy_23 rfl (by decide) ?_
              | refine T_if_lt_f (tgt := 35) (pc1 := 26) (pc := 23) k_M_copy_23 rfl rfl (by decide) ?_
              | refine T_if_lt (tgt := 35) (pc1 := 26) (pc := 23) k_M_copy_23 rfl rfl (fun hc => ?_) (fun hc => ?_)
              | refine T_aload_n (pc1 := 27) (pc := 26) k_M_copy_26 rfl rfl ?_
              | refine T_aload_nN (pc1 := 27) (pc := 26) k_M_copy_26 rfl rfl ?_
              | refine T_getR (pc1 := 30) (pc := 27) k_M_copy_27 rfl f_M_61 rfl (by first | exact ga G (by decide) rfl | assumption) (by first | exact gr G (by decide) rfl | assumption) ?_
              | refine T_iload_n (pc1 := 31) (pc := 30) k_M_copy_30 rfl rfl ?_
              | refine T_ialdN (pc1 := 32) (pc := 31) k_M_copy_31 rfl (by first | exact ga G (by decide) rfl | assumption) (by omega) (by omega) (by first | assumption | (simp (disch := omega) only [pI_eq, pI_row, pI_col, va_up_self, va_up_ne, ne_eq, not_false_eq_true, hSo, hSi, h1, h2, h3, h4] <;> rfl) | rfl) ?_
              | refine T_iald (pc1 := 32) (pc := 31) k_M_copy_31 rfl (by first | exact ga G (by decide) rfl | assumption) (by assumption) ?_
              | (with_reducible refine T_if_geN (tgt := 38) (pc1 := 35) (pc := 32) k_M_copy_32 (by decide) (by decide) (by omega) ?_ <;> first | (exfalso; omega) | skip)
              | refine T_if_ge_t (tgt := 38) (pc := 32) k_M_copy_32 rfl (by decide) ?_
              | refine T_if_ge_f (tgt := 38) (pc1 := 35) (pc := 32) k_M_copy_32 rfl rfl (by decide) ?_
              | refine T_if_ge (tgt := 38) (pc1 := 35) (pc := 32) k_M_copy_32 rfl rfl (fun hc => ?_) (fun hc => ?_)
              | refine T_ldc (v := (-1000000011)) (pc1 := 37) (pc := 35) k_M_copy_35 rfl c_M_196 ?_
              | refine T_retI (pc := 37) k_M_copy_37 rfl (by first | rfl | decide | assumption) ?_
              | refine T_aload_n (pc1 := 39) (pc := 38) k_M_copy_38 rfl rfl ?_
              | refine T_aload_nN (pc1 := 39) (pc := 38) k_M_copy_38 rfl rfl ?_
              | refine T_getR (pc1 := 42) (pc := 39) k_M_copy_39 rfl f_M_61 rfl (by first | exact ga G (by decide) rfl | assumption) (by first | exact gr G (by decide) rfl | assumption) ?_
              | refine T_iload_n (pc1 := 43) (pc := 42) k_M_copy_42 rfl rfl ?_
              | refine T_ialdN (pc1 := 44) (pc := 43) k_M_copy_43 rfl (by first | exact ga G (by decide) rfl | assumption) (by omega) (by omega) (by first | assumption | (simp (disch := omega) only [pI_eq, pI_row, pI_col, va_up_self, va_up_ne, ne_eq, not_false_eq_true, hSo, hSi, h1, h2, h3, h4] <;> rfl) | rfl) ?_
              | refine T_iald (pc1 := 44) (pc := 43) k_M_copy_43 rfl (by first | exact ga G (by decide) rfl | assumption) (by assumption) ?_
              | refine T_aload_n (pc1 := 45) (pc := 44) k_M_copy_44 rfl rfl ?_
              | refine T_aload_nN (pc1 := 45) (pc := 44) k_M_copy_44 rfl rfl ?_
              | refine T_getR (pc1 := 48) (pc := 45) k_M_copy_45 rfl f_M_61 rfl (by first | exact ga G (by decide) rfl | assumption) (by first | exact gr G (by decide) rfl | assumption) ?_
              | refine T_iload_n (pc1 := 49) (pc := 48) k_M_copy_48 rfl rfl ?_
              | refine T_ialdN (pc1 := 50) (pc := 49) k_M_copy_49 rfl (by first | exact ga G (by decide) rfl | assumption) (by omega) (by omega) (by first | assumption | (simp (disch := omega) only [pI_eq, pI_row, pI_col, va_up_self, va_up_ne, ne_eq, not_false_eq_true, hSo, hSi, h1, h2, h3, h4] <;> rfl) | rfl) ?_
              | refine T_iald (pc1 := 50) (pc := 49) k_M_copy_49 rfl (by first | exact ga G (by decide) rfl | assumption) (by assumption) ?_
              | (with_reducible refine T_icmp_eqN (tgt := 56) (pc1 := 53) (pc := 50) k_M_copy_50 (by decide) (by decide) (by omega) (by omega) (fun hc => ?_) (fun hc => ?_) <;> first | (exfalso; omega) | skip)
              | refine T_icmp_eq_t (tgt := 56) (pc := 50) k_M_copy_50 rfl (by decide) ?_
              | refine T_icmp_eq_f (tgt := 56) (pc1 := 53) (pc := 50) k_M_copy_50 rfl rfl (by decide) ?_
              | refine T_icmp_eq (tgt := 56) (pc1 := 53) (pc := 50) k_M_copy_50 rfl rfl (fun hc => ?_) (fun hc => ?_)
              | refine T_ldc (v := (-1000000012)) (pc1 := 55) (pc := 53) k_M_copy_53 rfl c_M_155 ?_
              | refine T_retI (pc := 55) k_M_copy_55 rfl (by first | rfl | decide | assumption) ?_
              | refine T_iload_n (pc1 := 57) (pc := 56) k_M_copy_56 rfl rfl ?_
              | (with_reducible refine T_if_ltN (tgt := 105) (pc1 := 60) (pc := 57) k_M_copy_57 (by decide) (by decide) (by omega) ?_ <;> first | (exfalso; omega) | skip)
              | refine T_if_lt_t (tgt := 105) (pc := 57) k_M_copy_57 rfl (by decide) ?_
              | refine T_if_lt_f (tgt := 105) (pc1 := 60) (pc := 57) k_M_copy_57 rfl rfl (by decide) ?_
              | refine T_if_lt (tgt := 105) (pc1 := 60) (pc := 57) k_M_copy_57 rfl rfl (fun hc => ?_) (fun hc => ?_)
              | refine T_iload (pc1 := 62) (pc := 60) k_M_copy_60 rfl rfl ?_
              | (with_reducible refine T_if_ltN (tgt := 105) (pc1 := 65) (pc := 62) k_M_copy_62 (by decide) (by decide) (by omega) ?_ <;> first | (exfalso; omega) | skip)
              | refine T_if_lt_t (tgt := 105) (pc := 62) k_M_copy_62 rfl (by decide) ?_
              | refine T_if_lt_f (tgt := 105) (pc1 := 65) (pc := 62) k_M_copy_62 rfl rfl (by decide) ?_
              | refine T_if_lt (tgt := 105) (pc1 := 65) (pc := 62) k_M_copy_62 rfl rfl (fun hc => ?_) (fun hc => ?_)
              | refine T_iload (pc1 := 67) (pc := 65) k_M_copy_65 rfl rfl ?_
              | (with_reducible refine T_if_ltN (tgt := 105) (pc1 := 70) (pc := 67) k_M_copy_67 (by decide) (by decide) (by omega) ?_ <;> first | (exfalso; omega) | skip)
              | refine T_if_lt_t (tgt := 105) (pc := 67) k_M_copy_67 rfl (by decide) ?_
              | refine T_if_lt_f (tgt := 105) (pc1 := 70) (pc := 67) k_M_copy_67 rfl rfl (by decide) ?_
              | refine T_if_lt (tgt := 105) (pc1 := 70) (pc := 67) k_M_copy_67 rfl rfl (fun hc => ?_) (fun hc => ?_)
              | refine T_iload_n (pc1 := 71) (pc := 70) k_M_copy_70 rfl rfl ?_
              | refine T_i2l (pc1 := 72) (pc := 71) k_M_copy_71 rfl ?_
              | refine T_iload (pc1 := 74) (pc := 72) k_M_copy_72 rfl rfl ?_
              | refine T_i2l (pc1 := 75) (pc := 74) k_M_copy_74 rfl ?_
              | refine T_ladd (pc1 := 76) (pc := 75) k_M_copy_75 rfl ?_
              | refine T_aload_n (pc1 := 77) (pc := 76) k_M_copy_76 rfl rfl ?_
              | refine T_aload_nN (pc1 := 77) (pc := 76) k_M_copy_76 rfl rfl ?_
              | refine T_getR (pc1 := 80) (pc := 77) k_M_copy_77 rfl f_M_64 rfl (by first | exact ga G (by decide) rfl | assumption) (by first | exact gr G (by decide) rfl | assumption) ?_
              | refine T_iload_n (pc1 := 81) (pc := 80) k_M_copy_80 rfl rfl ?_
              | refine T_ialdN (pc1 := 82) (pc := 81) k_M_copy_81 rfl (by first | exact ga G (by decide) rfl | assumption) (by omega) (by omega) (by first | assumption | (simp (disch := omega) only [pI_eq, pI_row, pI_col, va_up_self, va_up_ne, ne_eq, not_false_eq_true, hSo, hSi, h1, h2, h3, h4] <;> rfl) | rfl) ?_
              | refine T_iald (pc1 := 82) (pc := 81) k_M_copy_81 rfl (by first | exact ga G (by decide) rfl | assumption) (by assumption) ?_
              | refine T_i2l (pc1 := 83) (pc := 82) k_M_copy_82 rfl ?_
              | refine T_lcmp (pc1 := 84) (pc := 83) k_M_copy_83 rfl ?_
              | refine T_if_gt (tgt := 105) (pc1 := 87) (pc := 84) k_M_copy_84 rfl rfl (fun hc => ?_) (fun hc1 => ?_)
              | refine T_iload (pc1 := 89) (pc := 87) k_M_copy_87 rfl rfl ?_
              | refine T_i2l (pc1 := 90) (pc := 89) k_M_copy_89 rfl ?_
              | refine T_iload (pc1 := 92) (pc := 90) k_M_copy_90 rfl rfl ?_
              | refine T_i2l (pc1 := 93) (pc := 92) k_M_copy_92 rfl ?_
              | refine T_ladd (pc1 := 94) (pc := 93) k_M_copy_93 rfl ?_
              | refine T_aload_n (pc1 := 95) (pc := 94) k_M_copy_94 rfl rfl ?_
              | refine T_aload_nN (pc1 := 95) (pc := 94) k_M_copy_94 rfl rfl ?_
              | refine T_getR (pc1 := 98) (pc := 95) k_M_copy_95 rfl f_M_64 rfl (by first | exact ga G (by decide) rfl | assumption) (by first | exact gr G (by decide) rfl | assumption) ?_
              | refine T_iload_n (pc1 := 99) (pc := 98) k_M_copy_98 rfl rfl ?_
              | refine T_ialdN (pc1 := 100) (pc := 99) k_M_copy_99 rfl (by first | exact ga G (by decide) rfl | assumption) (by omega) (by omega) (by first | assumption | (simp (disch := omega) only [pI_eq, pI_row, pI_col, va_up_self, va_up_ne, ne_eq, not_false_eq_true, hSo, hSi, h1, h2, h3, h4] <;> rfl) | rfl) ?_
              | refine T_iald (pc1 := 100) (pc := 99) k_M_copy_99 rfl (by first | exact ga G (by decide) rfl | assumption) (by assumption) ?_
              | refine T_i2l (pc1 := 101) (pc := 100) k_M_copy_100 rfl ?_
              | refine T_lcmp (pc1 := 102) (pc := 101) k_M_copy_101 rfl ?_
              | refine T_if_le (tgt := 109) (pc1 := 105) (pc := 102) k_M_copy_102 rfl rfl (fun hc2 => ?_) (fun hc => ?_)
              | refine T_ldcw (v := (-1000000013)) (pc1 := 108) (pc := 105) k_M_copy_105 rfl c_M_297 ?_
              | refine T_retI (pc := 108) k_M_copy_108 rfl (by first | rfl | decide | assumption) ?_)
            all_goals first | exact kk | contradiction | (exfalso; apply hr; have q1 := l1.mp (Int32.not_lt.mp hc1); have q2 := l2.mp hc2; simp only [lt_toInt] at *; omega)
      · obtain ⟨kA, kP⟩ := copy_kd (So := So) (Si := Si) (Pl := Pl) (p := p) (a := a) (m := m) hj hk hno hkd
        rw [kA, kP] at kk
        have kk := kk I _ eqx_rf hPl rfl
        rcases h1 with h1 | h1 <;> rcases h3 with h3 | h3
        all_goals first | (exfalso; exact hkd (h1.trans h3.symm)) | skip
        all_goals
          repeat' (first
            | refine T_iload_n (pc1 := 1) (pc := 0) k_M_copy_0 rfl rfl ?_
            | (refine T_cS (As := [_]) (d1 := 2) (pc1 := 4) (pc := 1) k_M_copy_1 rfl (by decide) (Nat.le_of_ble_eq_true rfl) rfl o_M_isSheet l_M_193 rfl (c_M_isSheet (fun hw => ?_) (fun hw => ?_)) <;> try dsimp only [psh])
            | (with_reducible refine T_if_eqN (tgt := 14) (pc1 := 7) (pc := 4) k_M_copy_4 (by decide) (by decide) (by omega) (fun hc => ?_) (fun hc => ?_) <;> first | (exfalso; omega) | skip)
            | refine T_if_eq_t (tgt := 14) (pc := 4) k_M_copy_4 rfl (by decide) ?_
            | refine T_if_eq_f (tgt := 14) (pc1 := 7) (pc := 4) k_M_copy_4 rfl rfl (by decide) ?_
            | refine T_if_eq (tgt := 14) (pc1 := 7) (pc := 4) k_M_copy_4 rfl rfl (fun hc => ?_) (fun hc => ?_)
            | refine T_iload_n (pc1 := 8) (pc := 7) k_M_copy_7 rfl rfl ?_
            | (refine T_cS (As := [_]) (d1 := 2) (pc1 := 11) (pc := 8) k_M_copy_8 rfl (by decide) (Nat.le_of_ble_eq_true rfl) rfl o_M_isSheet l_M_193 rfl (c_M_isSheet (fun hw => ?_) (fun hw => ?_)) <;> try dsimp only [psh])
            | (with_reducible refine T_if_neN (tgt := 17) (pc1 := 14) (pc := 11) k_M_copy_11 (by decide) (by decide) (by omega) (fun hc => ?_) (fun hc => ?_) <;> first | (exfalso; omega) | skip)
            | refine T_if_ne_t (tgt := 17) (pc := 11) k_M_copy_11 rfl (by decide) ?_
            | refine T_if_ne_f (tgt := 17) (pc1 := 14) (pc := 11) k_M_copy_11 rfl rfl (by decide) ?_
            | refine T_if_ne (tgt := 17) (pc1 := 14) (pc := 11) k_M_copy_11 rfl rfl (fun hc => ?_) (fun hc => ?_)
            | refine T_ldc (v := (-1000000001)) (pc1 := 16) (pc := 14) k_M_copy_14 rfl c_M_111 ?_
            | refine T_retI (pc := 16) k_M_copy_16 rfl (by first | rfl | decide | assumption) ?_
            | refine T_aload_n (pc1 := 18) (pc := 17) k_M_copy_17 rfl rfl ?_
            | refine T_aload_nN (pc1 := 18) (pc := 17) k_M_copy_17 rfl rfl ?_
            | refine T_getR (pc1 := 21) (pc := 18) k_M_copy_18 rfl f_M_61 rfl (by first | exact ga G (by decide) rfl | assumption) (by first | exact gr G (by decide) rfl | assumption) ?_
            | refine T_iload_n (pc1 := 22) (pc := 21) k_M_copy_21 rfl rfl ?_
            | refine T_ialdN (pc1 := 23) (pc := 22) k_M_copy_22 rfl (by first | exact ga G (by decide) rfl | assumption) (by omega) (by omega) (by first | assumption | (simp (disch := omega) only [pI_eq, pI_row, pI_col, va_up_self, va_up_ne, ne_eq, not_false_eq_true, hSo, hSi, h1, h2, h3, h4] <;> rfl) | rfl) ?_
            | refine T_iald (pc1 := 23) (pc := 22) k_M_copy_22 rfl (by first | exact ga G (by decide) rfl | assumption) (by assumption) ?_
            | (with_reducible refine T_if_ltN (tgt := 35) (pc1 := 26) (pc := 23) k_M_copy_23 (by decide) (by decide) (by omega) ?_ <;> first | (exfalso; omega) | skip)
            | refine T_if_lt_t (tgt := 35) (pc := 23) k_M_copy_23 rfl (by decide) ?_
            | refine T_if_lt_f (tgt := 35) (pc1 := 26) (pc := 23) k_M_copy_23 rfl rfl (by decide) ?_
            | refine T_if_lt (tgt := 35) (pc1 := 26) (pc := 23) k_M_copy_23 rfl rfl (fun hc => ?_) (fun hc => ?_)
            | refine T_aload_n (pc1 := 27) (pc := 26) k_M_copy_26 rfl rfl ?_
            | refine T_aload_nN (pc1 := 27) (pc := 26) k_M_copy_26 rfl rfl ?_
            | refine T_getR (pc1 := 30) (pc := 27) k_M_copy_27 rfl f_M_61 rfl (by first | exact ga G (by decide) rfl | assumption) (by first | exact gr G (by decide) rfl | assumption) ?_
            | refine T_iload_n (pc1 := 31) (pc := 30) k_M_copy_30 rfl rfl ?_
            | refine T_ialdN (pc1 := 32) (pc := 31) k_M_copy_31 rfl (by first | exact ga G (by decide) rfl | assumption) (by omega) (by omega) (by first | assumption | (simp (disch := omega) only [pI_eq, pI_row, pI_col, va_up_self, va_up_ne, ne_eq, not_false_eq_true, hSo, hSi, h1, h2, h3, h4] <;> rfl) | rfl) ?_
            | refine T_iald (pc1 := 32) (pc := 31) k_M_copy_31 rfl (by first | exact ga G (by decide) rfl | assumption) (by assumption) ?_
            | (with_reducible refine T_if_geN (tgt := 38) (pc1 := 35) (pc := 32) k_M_copy_32 (by decide) (by decide) (by omega) ?_ <;> first | (exfalso; omega) | skip)
            | refine T_if_ge_t (tgt := 38) (pc := 32) k_M_copy_32 rfl (by decide) ?_
            | refine T_if_ge_f (tgt := 38) (pc1 := 35) (pc := 32) k_M_copy_32 rfl rfl (by decide) ?_
            | refine T_if_ge (tgt := 38) (pc1 := 35) (pc := 32) k_M_copy_32 rfl rfl (fun hc => ?_) (fun hc => ?_)
            | refine T_ldc (v := (-1000000011)) (pc1 := 37) (pc := 35) k_M_copy_35 rfl c_M_196 ?_
            | refine T_retI (pc := 37) k_M_copy_37 rfl (by first | rfl | decide | assumption) ?_
            | refine T_aload_n (pc1 := 39) (pc := 38) k_M_copy_38 rfl rfl ?_
            | refine T_aload_nN (pc1 := 39) (pc := 38) k_M_copy_38 rfl rfl ?_
            | refine T_getR (pc1 := 42) (pc := 39) k_M_copy_39 rfl f_M_61 rfl (by first | exact ga G (by decide) rfl | assumption) (by first | exact gr G (by decide) rfl | assumption) ?_
            | refine T_iload_n (pc1 := 43) (pc := 42) k_M_copy_42 rfl rfl ?_
            | refine T_ialdN (pc1 := 44) (pc := 43) k_M_copy_43 rfl (by first | exact ga G (by decide) rfl | assumption) (by omega) (by omega) (by first | assumption | (simp (disch := omega) only [pI_eq, pI_row, pI_col, va_up_self, va_up_ne, ne_eq, not_false_eq_true, hSo, hSi, h1, h2, h3, h4] <;> rfl) | rfl) ?_
            | refine T_iald (pc1 := 44) (pc := 43) k_M_copy_43 rfl (by first | exact ga G (by decide) rfl | assumption) (by assumption) ?_
            | refine T_aload_n (pc1 := 45) (pc := 44) k_M_copy_44 rfl rfl ?_
            | refine T_aload_nN (pc1 := 45) (pc := 44) k_M_copy_44 rfl rfl ?_
            | refine T_getR (pc1 := 48) (pc := 45) k_M_copy_45 rfl f_M_61 rfl (by first | exact ga G (by decide) rfl | assumption) (by first | exact gr G (by decide) rfl | assumption) ?_
            | refine T_iload_n (pc1 := 49) (pc := 48) k_M_copy_48 rfl rfl ?_
            | refine T_ialdN (pc1 := 50) (pc := 49) k_M_copy_49 rfl (by first | exact ga G (by decide) rfl | assumption) (by omega) (by omega) (by first | assumption | (simp (disch := omega) only [pI_eq, pI_row, pI_col, va_up_self, va_up_ne, ne_eq, not_false_eq_true, hSo, hSi, h1, h2, h3, h4] <;> rfl) | rfl) ?_
            | refine T_iald (pc1 := 50) (pc := 49) k_M_copy_49 rfl (by first | exact ga G (by decide) rfl | assumption) (by assumption) ?_
            | (with_reducible refine T_icmp_eqN (tgt := 56) (pc1 := 53) (pc := 50) k_M_copy_50 (by decide) (by decide) (by omega) (by omega) (fun hc => ?_) (fun hc => ?_) <;> first | (exfalso; omega) | skip)
            | refine T_icmp_eq_t (tgt := 56) (pc := 50) k_M_copy_50 rfl (by decide) ?_
            | refine T_icmp_eq_f (tgt := 56) (pc1 := 53) (pc := 50) k_M_copy_50 rfl rfl (by decide) ?_
            | refine T_icmp_eq (tgt := 56) (pc1 := 53) (pc := 50) k_M_copy_50 rfl rfl (fun hc => ?_) (fun hc => ?_)
            | refine T_ldc (v := (-1000000012)) (pc1 := 55) (pc := 53) k_M_copy_53 rfl c_M_155 ?_
            | refine T_retI (pc := 55) k_M_copy_55 rfl (by first | rfl | decide | assumption) ?_)
          all_goals first | exact kk | contradiction
  · obtain ⟨kA, kP⟩ := copy_bad (So := So) (Si := Si) (Pl := Pl) (p := p) (a := a) (m := m) hs
    rw [kA, kP] at kk
    repeat' (first
      | refine T_iload_n (pc1 := 1) (pc := 0) k_M_copy_0 rfl rfl ?_
      | (refine T_cS (As := [_]) (d1 := 2) (pc1 := 4) (pc := 1) k_M_copy_1 rfl (by decide) (Nat.le_of_ble_eq_true rfl) rfl o_M_isSheet l_M_193 rfl (c_M_isSheet (fun hw => ?_) (fun hw => ?_)) <;> try dsimp only [psh])
      | (with_reducible refine T_if_eqN (tgt := 14) (pc1 := 7) (pc := 4) k_M_copy_4 (by decide) (by decide) (by omega) (fun hc => ?_) (fun hc => ?_) <;> first | (exfalso; omega) | skip)
      | refine T_if_eq_t (tgt := 14) (pc := 4) k_M_copy_4 rfl (by decide) ?_
      | refine T_if_eq_f (tgt := 14) (pc1 := 7) (pc := 4) k_M_copy_4 rfl rfl (by decide) ?_
      | refine T_if_eq (tgt := 14) (pc1 := 7) (pc := 4) k_M_copy_4 rfl rfl (fun hc => ?_) (fun hc => ?_)
      | refine T_iload_n (pc1 := 8) (pc := 7) k_M_copy_7 rfl rfl ?_
      | (refine T_cS (As := [_]) (d1 := 2) (pc1 := 11) (pc := 8) k_M_copy_8 rfl (by decide) (Nat.le_of_ble_eq_true rfl) rfl o_M_isSheet l_M_193 rfl (c_M_isSheet (fun hw => ?_) (fun hw => ?_)) <;> try dsimp only [psh])
      | (with_reducible refine T_if_neN (tgt := 17) (pc1 := 14) (pc := 11) k_M_copy_11 (by decide) (by decide) (by omega) (fun hc => ?_) (fun hc => ?_) <;> first | (exfalso; omega) | skip)
      | refine T_if_ne_t (tgt := 17) (pc := 11) k_M_copy_11 rfl (by decide) ?_
      | refine T_if_ne_f (tgt := 17) (pc1 := 14) (pc := 11) k_M_copy_11 rfl rfl (by decide) ?_
      | refine T_if_ne (tgt := 17) (pc1 := 14) (pc := 11) k_M_copy_11 rfl rfl (fun hc => ?_) (fun hc => ?_)
      | refine T_ldc (v := (-1000000001)) (pc1 := 16) (pc := 14) k_M_copy_14 rfl c_M_111 ?_
      | refine T_retI (pc := 16) k_M_copy_16 rfl (by first | rfl | decide | assumption) ?_)
    all_goals first | exact kk I _ eqx_rf hPl rfl | (exfalso; exact hs ⟨by assumption, by assumption⟩)
end M16
