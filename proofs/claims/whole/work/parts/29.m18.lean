/-! The model: lay, ask, item, count, check. -/
section PU13
/-- how many told numbers are right -/
def ckF (n tn fr to0 many : Nat) (Wt : Row) : Nat → Nat → Row → Nat
  | 0, k, _ => 2 * k
  | q + 1, k, R => if 2 * k < many ∧ Wt (2 * k) = nI (wkM R n tn fr to0) then (if 2 * k + 1 < many ∧ Wt (2 * k + 1) = trdS (wkN R n tn fr to0) n then ckF n tn fr to0 many Wt q (k + 1) (wkN R n tn fr to0) else 2 * k + 1) else 2 * k
def ckV (x many r : Nat) : Int32 := if r = 2 * x ∧ r = many then nI 0 else nI (1 + r)
def checkA (M : Row) (n tn : Nat) (kept : Bool) (w : Nat) (Wt : Row) (f t m : Int32) : Int32 := if (rg 8 f ∧ rg 8 t) ∧ bt 1 30 m then (if kept = true then ckV m.toNatClampNeg w (ckF n tn f.toNatClampNeg t.toNatClampNeg w Wt m.toNatClampNeg 0 M) else cNO) else cBAD
theorem trdS_agr {N N' : Row} : ∀ n, (∀ b, b < n → bf N' b 4 = bf N b 4) → trdS N' n = trdS N n
  | 0, _ => rfl
  | n + 1, h => by
    unfold trdS
    rw [trdS_agr n (fun b hb => h b (by omega)), h n (by omega)]
end PU13
section M18
variable {g : Geo} {I : IM} {K : Option Value → Geo → IM → Prop}
theorem c_M_swap {N M : Row} (G : GeoOK g) (hN : I 102 = N) (hM : I 103 = M) (hz : ∀ k, 1556 ≤ k → N k = M k) (kk : ∀ J, eqx [102, 103] I J → J 102 = M → J 103 = N → K none g J) : Cl 1 M_M_swap [.ref 101] g I K := by
  show Rl 1 M_M_swap 0 [some (.ref 101), none, none] [] g I K
  have loop : ∀ q k o2 (J : IM), k + q = 1556 → eqx [102, 103] I J → J 102 = cpy k M N → J 103 = cpy k N M → Rl 1 M_M_swap 2 [some (.ref 101), some (.int (nI k)), o2] [] g J K := by
    intro q
    induction q with
    | zero =>
      intro k o2 J hk hJ h1 h2
      have hk : k = 1556 := by omega
      subst hk
      repeat' (first
        | refine T_iconst (v := (nI 0)) (pc1 := 1) (pc := 0) k_M_swap_0 rfl (by decide) ?_
        | refine T_istore_n (pc1 := 2) (pc := 1) k_M_swap_1 rfl (Nat.le_of_ble_eq_true rfl) ?_
        | refine T_iload_n (pc1 := 3) (pc := 2) k_M_swap_2 rfl rfl ?_
        | refine T_sipush (v := (nI 1556)) (pc1 := 6) (pc := 3) k_M_swap_3 rfl (by decide) ?_
        | (with_reducible refine T_icmp_geN (tgt := 41) (pc1 := 9) (pc := 6) k_M_swap_6 (by decide) (by decide) (by omega) (by omega) (fun hc => ?_) (fun hc => ?_) <;> first | (exfalso; omega) | skip)
        | refine T_icmp_ge_t (tgt := 41) (pc := 6) k_M_swap_6 rfl (by decide) ?_
        | refine T_icmp_ge_f (tgt := 41) (pc1 := 9) (pc := 6) k_M_swap_6 rfl rfl (by decide) ?_
        | refine T_icmp_ge (tgt := 41) (pc1 := 9) (pc := 6) k_M_swap_6 rfl rfl (fun hc => ?_) (fun hc => ?_)
        | refine T_aload_n (pc1 := 10) (pc := 9) k_M_swap_9 rfl rfl ?_
        | refine T_aload_nN (pc1 := 10) (pc := 9) k_M_swap_9 rfl rfl ?_
        | refine T_getR (pc1 := 13) (pc := 10) k_M_swap_10 rfl f_M_9 rfl (by first | exact ga G (by decide) rfl | assumption) (by first | exact gr G (by decide) rfl | assumption) ?_
        | refine T_iload_n (pc1 := 14) (pc := 13) k_M_swap_13 rfl rfl ?_
        | refine T_ialdN (pc1 := 15) (pc := 14) k_M_swap_14 rfl (by first | exact ga G (by decide) rfl | assumption) (by omega) (by omega) (by first | assumption | (simp (disch := omega) only [pI_eq, pI_row, pI_col, va_up_self, va_up_ne, ne_eq, not_false_eq_true] <;> rfl) | rfl) ?_
        | refine T_iald (pc1 := 15) (pc := 14) k_M_swap_14 rfl (by first | exact ga G (by decide) rfl | assumption) (by assumption) ?_
        | refine T_istore_n (pc1 := 16) (pc := 15) k_M_swap_15 rfl (Nat.le_of_ble_eq_true rfl) ?_
        | refine T_aload_n (pc1 := 17) (pc := 16) k_M_swap_16 rfl rfl ?_
        | refine T_aload_nN (pc1 := 17) (pc := 16) k_M_swap_16 rfl rfl ?_
        | refine T_getR (pc1 := 20) (pc := 17) k_M_swap_17 rfl f_M_9 rfl (by first | exact ga G (by decide) rfl | assumption) (by first | exact gr G (by decide) rfl | assumption) ?_
        | refine T_iload_n (pc1 := 21) (pc := 20) k_M_swap_20 rfl rfl ?_
        | refine T_aload_n (pc1 := 22) (pc := 21) k_M_swap_21 rfl rfl ?_
        | refine T_aload_nN (pc1 := 22) (pc := 21) k_M_swap_21 rfl rfl ?_
        | refine T_getR (pc1 := 25) (pc := 22) k_M_swap_22 rfl f_M_13 rfl (by first | exact ga G (by decide) rfl | assumption) (by first | exact gr G (by decide) rfl | assumption) ?_
        | refine T_iload_n (pc1 := 26) (pc := 25) k_M_swap_25 rfl rfl ?_
        | refine T_ialdN (pc1 := 27) (pc := 26) k_M_swap_26 rfl (by first | exact ga G (by decide) rfl | assumption) (by omega) (by omega) (by first | assumption | (simp (disch := omega) only [pI_eq, pI_row, pI_col, va_up_self, va_up_ne, ne_eq, not_false_eq_true] <;> rfl) | rfl) ?_
        | refine T_iald (pc1 := 27) (pc := 26) k_M_swap_26 rfl (by first | exact ga G (by decide) rfl | assumption) (by assumption) ?_
        | refine T_iastN (pc1 := 28) (pc := 27) k_M_swap_27 rfl (by first | exact ga G (by decide) rfl | assumption) (by omega) (by omega) ?_
        | refine T_aload_n (pc1 := 29) (pc := 28) k_M_swap_28 rfl rfl ?_
        | refine T_aload_nN (pc1 := 29) (pc := 28) k_M_swap_28 rfl rfl ?_
        | refine T_getR (pc1 := 32) (pc := 29) k_M_swap_29 rfl f_M_13 rfl (by first | exact ga G (by decide) rfl | assumption) (by first | exact gr G (by decide) rfl | assumption) ?_
        | refine T_iload_n (pc1 := 33) (pc := 32) k_M_swap_32 rfl rfl ?_
        | refine T_iload_n (pc1 := 34) (pc := 33) k_M_swap_33 rfl rfl ?_
        | refine T_iastN (pc1 := 35) (pc := 34) k_M_swap_34 rfl (by first | exact ga G (by decide) rfl | assumption) (by omega) (by omega) ?_
        | refine T_iincN (b := 1) (pc1 := 38) (pc := 35) k_M_swap_35 rfl rfl (by decide) ?_
        | refine T_iinc (v := (nI 1)) (pc1 := 38) (pc := 35) k_M_swap_35 rfl rfl (by decide) ?_
        | refine T_goto (tgt := 2) (pc := 38) k_M_swap_38 rfl ?_
        | refine T_retV (pc := 41) k_M_swap_41 rfl ?_)
      exact kk J hJ (by rw [h1, cpy_eq (fun k hk => (hz k hk).symm)]) (by rw [h2, cpy_eq hz])
    | succ q ih =>
      intro k o2 J hk hJ h1 h2
      have e1 : J 102 k = N k := by rw [h1, cpy, if_neg (by omega)]
      have e2 : J 103 k = M k := by rw [h2, cpy, if_neg (by omega)]
      refine T_iload_n (pc1 := 3) (pc := 2) k_M_swap_2 rfl rfl ?_
      repeat' (first
        | refine T_iconst (v := (nI 0)) (pc1 := 1) (pc := 0) k_M_swap_0 rfl (by decide) ?_
        | refine T_istore_n (pc1 := 2) (pc := 1) k_M_swap_1 rfl (Nat.le_of_ble_eq_true rfl) ?_
        | refine T_sipush (v := (nI 1556)) (pc1 := 6) (pc := 3) k_M_swap_3 rfl (by decide) ?_
        | (with_reducible refine T_icmp_geN (tgt := 41) (pc1 := 9) (pc := 6) k_M_swap_6 (by decide) (by decide) (by omega) (by omega) (fun hc => ?_) (fun hc => ?_) <;> first | (exfalso; omega) | skip)
        | refine T_icmp_ge_t (tgt := 41) (pc := 6) k_M_swap_6 rfl (by decide) ?_
        | refine T_icmp_ge_f (tgt := 41) (pc1 := 9) (pc := 6) k_M_swap_6 rfl rfl (by decide) ?_
        | refine T_icmp_ge (tgt := 41) (pc1 := 9) (pc := 6) k_M_swap_6 rfl rfl (fun hc => ?_) (fun hc => ?_)
        | refine T_aload_n (pc1 := 10) (pc := 9) k_M_swap_9 rfl rfl ?_
        | refine T_aload_nN (pc1 := 10) (pc := 9) k_M_swap_9 rfl rfl ?_
        | refine T_getR (pc1 := 13) (pc := 10) k_M_swap_10 rfl f_M_9 rfl (by first | exact ga G (by decide) rfl | assumption) (by first | exact gr G (by decide) rfl | assumption) ?_
        | refine T_iload_n (pc1 := 14) (pc := 13) k_M_swap_13 rfl rfl ?_
        | refine T_ialdN (pc1 := 15) (pc := 14) k_M_swap_14 rfl (by first | exact ga G (by decide) rfl | assumption) (by omega) (by omega) (by first | assumption | (simp (disch := omega) only [pI_eq, pI_row, pI_col, va_up_self, va_up_ne, ne_eq, not_false_eq_true] <;> rfl) | rfl) ?_
        | refine T_iald (pc1 := 15) (pc := 14) k_M_swap_14 rfl (by first | exact ga G (by decide) rfl | assumption) (by assumption) ?_
        | refine T_istore_n (pc1 := 16) (pc := 15) k_M_swap_15 rfl (Nat.le_of_ble_eq_true rfl) ?_
        | refine T_aload_n (pc1 := 17) (pc := 16) k_M_swap_16 rfl rfl ?_
        | refine T_aload_nN (pc1 := 17) (pc := 16) k_M_swap_16 rfl rfl ?_
        | refine T_getR (pc1 := 20) (pc := 17) k_M_swap_17 rfl f_M_9 rfl (by first | exact ga G (by decide) rfl | assumption) (by first | exact gr G (by decide) rfl | assumption) ?_
        | refine T_iload_n (pc1 := 21) (pc := 20) k_M_swap_20 rfl rfl ?_
        | refine T_aload_n (pc1 := 22) (pc := 21) k_M_swap_21 rfl rfl ?_
        | refine T_aload_nN (pc1 := 22) (pc := 21) k_M_swap_21 rfl rfl ?_
        | refine T_getR (pc1 := 25) (pc := 22) k_M_swap_22 rfl f_M_13 rfl (by first | exact ga G (by decide) rfl | assumption) (by first | exact gr G (by decide) rfl | assumption) ?_
        | refine T_iload_n (pc1 := 26) (pc := 25) k_M_swap_25 rfl rfl ?_
        | refine T_ialdN (pc1 := 27) (pc := 26) k_M_swap_26 rfl (by first | exact ga G (by decide) rfl | assumption) (by omega) (by omega) (by first | assumption | (simp (disch := omega) only [pI_eq, pI_row, pI_col, va_up_self, va_up_ne, ne_eq, not_false_eq_true] <;> rfl) | rfl) ?_
        | refine T_iald (pc1 := 27) (pc := 26) k_M_swap_26 rfl (by first | exact ga G (by decide) rfl | assumption) (by assumption) ?_
        | refine T_iastN (pc1 := 28) (pc := 27) k_M_swap_27 rfl (by first | exact ga G (by decide) rfl | assumption) (by omega) (by omega) ?_
        | refine T_aload_n (pc1 := 29) (pc := 28) k_M_swap_28 rfl rfl ?_
        | refine T_aload_nN (pc1 := 29) (pc := 28) k_M_swap_28 rfl rfl ?_
        | refine T_getR (pc1 := 32) (pc := 29) k_M_swap_29 rfl f_M_13 rfl (by first | exact ga G (by decide) rfl | assumption) (by first | exact gr G (by decide) rfl | assumption) ?_
        | refine T_iload_n (pc1 := 33) (pc := 32) k_M_swap_32 rfl rfl ?_
        | refine T_iload_n (pc1 := 34) (pc := 33) k_M_swap_33 rfl rfl ?_
        | refine T_iastN (pc1 := 35) (pc := 34) k_M_swap_34 rfl (by first | exact ga G (by decide) rfl | assumption) (by omega) (by omega) ?_
        | refine T_iincN (b := 1) (pc1 := 38) (pc := 35) k_M_swap_35 rfl rfl (by decide) ?_
        | refine T_iinc (v := (nI 1)) (pc1 := 38) (pc := 35) k_M_swap_35 rfl rfl (by decide) ?_
        | refine T_goto (tgt := 2) (pc := 38) k_M_swap_38 rfl ?_
        | refine T_retV (pc := 41) k_M_swap_41 rfl ?_)
      refine ih (k + 1) _ _ (by omega) (eqx_pI (eqx_pI hJ _ (by decide)) _ (by decide)) ?_ ?_
      · rw [pI_rw (by decide), pI_self, h1, cpy_s]
      · rw [pI_self, pI_rw (by decide), h2, cpy_s]
  repeat' (first
    | refine T_iconst (v := (nI 0)) (pc1 := 1) (pc := 0) k_M_swap_0 rfl (by decide) ?_
    | refine T_istore_n (pc1 := 2) (pc := 1) k_M_swap_1 rfl (Nat.le_of_ble_eq_true rfl) ?_
    | refine T_sipush (v := (nI 1556)) (pc1 := 6) (pc := 3) k_M_swap_3 rfl (by decide) ?_
    | (with_reducible refine T_icmp_geN (tgt := 41) (pc1 := 9) (pc := 6) k_M_swap_6 (by decide) (by decide) (by omega) (by omega) (fun hc => ?_) (fun hc => ?_) <;> first | (exfalso; omega) | skip)
    | refine T_icmp_ge_t (tgt := 41) (pc := 6) k_M_swap_6 rfl (by decide) ?_
    | refine T_icmp_ge_f (tgt := 41) (pc1 := 9) (pc := 6) k_M_swap_6 rfl rfl (by decide) ?_
    | refine T_icmp_ge (tgt := 41) (pc1 := 9) (pc := 6) k_M_swap_6 rfl rfl (fun hc => ?_) (fun hc => ?_)
    | refine T_aload_n (pc1 := 10) (pc := 9) k_M_swap_9 rfl rfl ?_
    | refine T_aload_nN (pc1 := 10) (pc := 9) k_M_swap_9 rfl rfl ?_
    | refine T_getR (pc1 := 13) (pc := 10) k_M_swap_10 rfl f_M_9 rfl (by first | exact ga G (by decide) rfl | assumption) (by first | exact gr G (by decide) rfl | assumption) ?_
    | refine T_iload_n (pc1 := 14) (pc := 13) k_M_swap_13 rfl rfl ?_
    | refine T_ialdN (pc1 := 15) (pc := 14) k_M_swap_14 rfl (by first | exact ga G (by decide) rfl | assumption) (by omega) (by omega) (by first | assumption | (simp (disch := omega) only [pI_eq, pI_row, pI_col, va_up_self, va_up_ne, ne_eq, not_false_eq_true] <;> rfl) | rfl) ?_
    | refine T_iald (pc1 := 15) (pc := 14) k_M_swap_14 rfl (by first | exact ga G (by decide) rfl | assumption) (by assumption) ?_
    | refine T_istore_n (pc1 := 16) (pc := 15) k_M_swap_15 rfl (Nat.le_of_ble_eq_true rfl) ?_
    | refine T_aload_n (pc1 := 17) (pc := 16) k_M_swap_16 rfl rfl ?_
    | refine T_aload_nN (pc1 := 17) (pc := 16) k_M_swap_16 rfl rfl ?_
    | refine T_getR (pc1 := 20) (pc := 17) k_M_swap_17 rfl f_M_9 rfl (by first | exact ga G (by decide) rfl | assumption) (by first | exact gr G (by decide) rfl | assumption) ?_
    | refine T_iload_n (pc1 := 21) (pc := 20) k_M_swap_20 rfl rfl ?_
    | refine T_aload_n (pc1 := 22) (pc := 21) k_M_swap_21 rfl rfl ?_
    | refine T_aload_nN (pc1 := 22) (pc := 21) k_M_swap_21 rfl rfl ?_
    | refine T_getR (pc1 := 25) (pc := 22) k_M_swap_22 rfl f_M_13 rfl (by first | exact ga G (by decide) rfl | assumption) (by first | exact gr G (by decide) rfl | assumption) ?_
    | refine T_iload_n (pc1 := 26) (pc := 25) k_M_swap_25 rfl rfl ?_
    | refine T_ialdN (pc1 := 27) (pc := 26) k_M_swap_26 rfl (by first | exact ga G (by decide) rfl | assumption) (by omega) (by omega) (by first | assumption | (simp (disch := omega) only [pI_eq, pI_row, pI_col, va_up_self, va_up_ne, ne_eq, not_false_eq_true] <;> rfl) | rfl) ?_
    | refine T_iald (pc1 := 27) (pc := 26) k_M_swap_26 rfl (by first | exact ga G (by decide) rfl | assumption) (by assumption) ?_
    | refine T_iastN (pc1 := 28) (pc := 27) k_M_swap_27 rfl (by first | exact ga G (by decide) rfl | assumption) (by omega) (by omega) ?_
    | refine T_aload_n (pc1 := 29) (pc := 28) k_M_swap_28 rfl rfl ?_
    | refine T_aload_nN (pc1 := 29) (pc := 28) k_M_swap_28 rfl rfl ?_
    | refine T_getR (pc1 := 32) (pc := 29) k_M_swap_29 rfl f_M_13 rfl (by first | exact ga G (by decide) rfl | assumption) (by first | exact gr G (by decide) rfl | assumption) ?_
    | refine T_iload_n (pc1 := 33) (pc := 32) k_M_swap_32 rfl rfl ?_
    | refine T_iload_n (pc1 := 34) (pc := 33) k_M_swap_33 rfl rfl ?_
    | refine T_iastN (pc1 := 35) (pc := 34) k_M_swap_34 rfl (by first | exact ga G (by decide) rfl | assumption) (by omega) (by omega) ?_
    | refine T_iincN (b := 1) (pc1 := 38) (pc := 35) k_M_swap_35 rfl rfl (by decide) ?_
    | refine T_iinc (v := (nI 1)) (pc1 := 38) (pc := 35) k_M_swap_35 rfl rfl (by decide) ?_
    | refine T_goto (tgt := 2) (pc := 38) k_M_swap_38 rfl ?_
    | refine T_retV (pc := 41) k_M_swap_41 rfl ?_)
  exact loop 1556 0 _ I (by omega) eqx_rf (by rw [cpy_0]; exact hN) (by rw [cpy_0]; exact hM)
theorem c_M_ask {Th He : Row} {sl k : Int32} (G : GeoOK g) (hTh : I 118 = Th) (hHe : I 119 = He) (okh : okH Th He) (kk : ∀ r, r = askA Th He sl k → K (some (.int r)) g I) : Cl 3 M_M_ask [.ref 101, .int sl, .int k] g I K := by
  show Rl 3 M_M_ask 0 [some (.ref 101), some (.int sl), some (.int k), none] [] g I K
  unfold askA at kk
  by_cases hs : rg 5 sl ∧ rg 6 k
  · rw [if_pos hs] at kk
    obtain ⟨s, hs5, rfl⟩ := rg_of hs.1 (by omega)
    obtain ⟨o, ho, rfl⟩ := rg_of hs.2 (by omega)
    have c1 := hs.1
    have c2 := hs.2
    rw [nI_clamp (by omega), nI_clamp (by omega)] at kk
    rcases okh s hs5 with h | ⟨h, kd, l, hkd, -, -, hk1, hk2⟩ | ⟨h, -⟩ | h
    · rw [h] at kk
      repeat' (first
        | refine T_iload_n (pc1 := 1) (pc := 0) k_M_ask_0 rfl rfl ?_
        | (refine T_cS (As := [_]) (d1 := 2) (pc1 := 4) (pc := 1) k_M_ask_1 rfl (by decide) (Nat.le_of_ble_eq_true rfl) rfl o_M_isSlot l_M_300 rfl (c_M_isSlot (fun hw => ?_) (fun hw => ?_)) <;> try dsimp only [psh])
        | (with_reducible refine T_if_eqN (tgt := 14) (pc1 := 7) (pc := 4) k_M_ask_4 (by decide) (by decide) (by omega) (fun hc => ?_) (fun hc => ?_) <;> first | (exfalso; omega) | skip)
        | refine T_if_eq_t (tgt := 14) (pc := 4) k_M_ask_4 rfl (by decide) ?_
        | refine T_if_eq_f (tgt := 14) (pc1 := 7) (pc := 4) k_M_ask_4 rfl rfl (by decide) ?_
        | refine T_if_eq (tgt := 14) (pc1 := 7) (pc := 4) k_M_ask_4 rfl rfl (fun hc => ?_) (fun hc => ?_)
        | refine T_iload_n (pc1 := 8) (pc := 7) k_M_ask_7 rfl rfl ?_
        | (refine T_cS (As := [_]) (d1 := 2) (pc1 := 11) (pc := 8) k_M_ask_8 rfl (by decide) (Nat.le_of_ble_eq_true rfl) rfl o_M_isKind l_M_104 rfl (c_M_isKind (fun hw => ?_) (fun hw => ?_)) <;> try dsimp only [psh])
        | (with_reducible refine T_if_neN (tgt := 17) (pc1 := 14) (pc := 11) k_M_ask_11 (by decide) (by decide) (by omega) (fun hc => ?_) (fun hc => ?_) <;> first | (exfalso; omega) | skip)
        | refine T_if_ne_t (tgt := 17) (pc := 11) k_M_ask_11 rfl (by decide) ?_
        | refine T_if_ne_f (tgt := 17) (pc1 := 14) (pc := 11) k_M_ask_11 rfl rfl (by decide) ?_
        | refine T_if_ne (tgt := 17) (pc1 := 14) (pc := 11) k_M_ask_11 rfl rfl (fun hc => ?_) (fun hc => ?_)
        | refine T_ldc (v := (-1000000001)) (pc1 := 16) (pc := 14) k_M_ask_14 rfl c_M_111 ?_
        | refine T_retI (pc := 16) k_M_ask_16 rfl (by first | rfl | decide | assumption) ?_
        | refine T_aload_n (pc1 := 18) (pc := 17) k_M_ask_17 rfl rfl ?_
        | refine T_aload_nN (pc1 := 18) (pc := 17) k_M_ask_17 rfl rfl ?_
        | refine T_getR (pc1 := 21) (pc := 18) k_M_ask_18 rfl f_M_73 rfl (by first | exact ga G (by decide) rfl | assumption) (by first | exact gr G (by decide) rfl | assumption) ?_
        | refine T_iload_n (pc1 := 22) (pc := 21) k_M_ask_21 rfl rfl ?_
        | refine T_ialdN (pc1 := 23) (pc := 22) k_M_ask_22 rfl (by first | exact ga G (by decide) rfl | assumption) (by omega) (by omega) (by first | assumption | (simp (disch := omega) only [pI_eq, pI_row, pI_col, va_up_self, va_up_ne, ne_eq, not_false_eq_true, hTh, h] <;> rfl) | rfl) ?_
        | refine T_iald (pc1 := 23) (pc := 22) k_M_ask_22 rfl (by first | exact ga G (by decide) rfl | assumption) (by assumption) ?_
        | (with_reducible refine T_if_neN (tgt := 29) (pc1 := 26) (pc := 23) k_M_ask_23 (by decide) (by decide) (by omega) (fun hc => ?_) (fun hc => ?_) <;> first | (exfalso; omega) | skip)
        | refine T_if_ne_t (tgt := 29) (pc := 23) k_M_ask_23 rfl (by decide) ?_
        | refine T_if_ne_f (tgt := 29) (pc1 := 26) (pc := 23) k_M_ask_23 rfl rfl (by decide) ?_
        | refine T_if_ne (tgt := 29) (pc1 := 26) (pc := 23) k_M_ask_23 rfl rfl (fun hc => ?_) (fun hc => ?_)
        | refine T_ldc (v := (-1000000011)) (pc1 := 28) (pc := 26) k_M_ask_26 rfl c_M_196 ?_
        | refine T_retI (pc := 28) k_M_ask_28 rfl (by first | rfl | decide | assumption) ?_
        | refine T_bipush (v := (nI 25)) (pc1 := 31) (pc := 29) k_M_ask_29 rfl (by decide) ?_
        | refine T_iload_n (pc1 := 32) (pc := 31) k_M_ask_31 rfl rfl ?_
        | with_reducible refine T_imulN (pc1 := 33) (pc := 32) k_M_ask_32 (by decide) ?_
        | refine T_imul (pc1 := 33) (pc := 32) k_M_ask_32 rfl ?_
        | refine T_istore_n (pc1 := 34) (pc := 33) k_M_ask_33 rfl (Nat.le_of_ble_eq_true rfl) ?_
        | refine T_aload_n (pc1 := 35) (pc := 34) k_M_ask_34 rfl rfl ?_
        | refine T_aload_nN (pc1 := 35) (pc := 34) k_M_ask_34 rfl rfl ?_
        | refine T_getR (pc1 := 38) (pc := 35) k_M_ask_35 rfl f_M_73 rfl (by first | exact ga G (by decide) rfl | assumption) (by first | exact gr G (by decide) rfl | assumption) ?_
        | refine T_iload_n (pc1 := 39) (pc := 38) k_M_ask_38 rfl rfl ?_
        | refine T_ialdN (pc1 := 40) (pc := 39) k_M_ask_39 rfl (by first | exact ga G (by decide) rfl | assumption) (by omega) (by omega) (by first | assumption | (simp (disch := omega) only [pI_eq, pI_row, pI_col, va_up_self, va_up_ne, ne_eq, not_false_eq_true, hTh, h] <;> rfl) | rfl) ?_
        | refine T_iald (pc1 := 40) (pc := 39) k_M_ask_39 rfl (by first | exact ga G (by decide) rfl | assumption) (by assumption) ?_
        | refine T_iconst (v := (nI 1)) (pc1 := 41) (pc := 40) k_M_ask_40 rfl (by decide) ?_
        | (with_reducible refine T_icmp_neN (tgt := 77) (pc1 := 44) (pc := 41) k_M_ask_41 (by decide) (by decide) (by omega) (by omega) (fun hc => ?_) (fun hc => ?_) <;> first | (exfalso; omega) | skip)
        | refine T_icmp_ne_t (tgt := 77) (pc := 41) k_M_ask_41 rfl (by decide) ?_
        | refine T_icmp_ne_f (tgt := 77) (pc1 := 44) (pc := 41) k_M_ask_41 rfl rfl (by decide) ?_
        | refine T_icmp_ne (tgt := 77) (pc1 := 44) (pc := 41) k_M_ask_41 rfl rfl (fun hc => ?_) (fun hc => ?_)
        | refine T_aload_n (pc1 := 45) (pc := 44) k_M_ask_44 rfl rfl ?_
        | refine T_aload_nN (pc1 := 45) (pc := 44) k_M_ask_44 rfl rfl ?_
        | refine T_getR (pc1 := 48) (pc := 45) k_M_ask_45 rfl f_M_76 rfl (by first | exact ga G (by decide) rfl | assumption) (by first | exact gr G (by decide) rfl | assumption) ?_
        | refine T_iload_n (pc1 := 49) (pc := 48) k_M_ask_48 rfl rfl ?_
        | refine T_ialdN (pc1 := 50) (pc := 49) k_M_ask_49 rfl (by first | exact ga G (by decide) rfl | assumption) (by omega) (by omega) (by first | assumption | (simp (disch := omega) only [pI_eq, pI_row, pI_col, va_up_self, va_up_ne, ne_eq, not_false_eq_true, hTh, h] <;> rfl) | rfl) ?_
        | refine T_iald (pc1 := 50) (pc := 49) k_M_ask_49 rfl (by first | exact ga G (by decide) rfl | assumption) (by assumption) ?_
        | refine T_iload_n (pc1 := 51) (pc := 50) k_M_ask_50 rfl rfl ?_
        | (refine T_cS (As := [_, _]) (d1 := 2) (pc1 := 54) (pc := 51) k_M_ask_51 rfl (by decide) (Nat.le_of_ble_eq_true rfl) rfl o_M_isUnder l_M_137 rfl (c_M_isUnder (by omega) (by omega) (fun hu => ?_) (fun hu => ?_)) <;> try dsimp only [psh])
        | (with_reducible refine T_if_eqN (tgt := 77) (pc1 := 57) (pc := 54) k_M_ask_54 (by decide) (by decide) (by omega) (fun hc => ?_) (fun hc => ?_) <;> first | (exfalso; omega) | skip)
        | refine T_if_eq_t (tgt := 77) (pc := 54) k_M_ask_54 rfl (by decide) ?_
        | refine T_if_eq_f (tgt := 77) (pc1 := 57) (pc := 54) k_M_ask_54 rfl rfl (by decide) ?_
        | refine T_if_eq (tgt := 77) (pc1 := 57) (pc := 54) k_M_ask_54 rfl rfl (fun hc => ?_) (fun hc => ?_)
        | refine T_aload_n (pc1 := 58) (pc := 57) k_M_ask_57 rfl rfl ?_
        | refine T_aload_nN (pc1 := 58) (pc := 57) k_M_ask_57 rfl rfl ?_
        | refine T_getR (pc1 := 61) (pc := 58) k_M_ask_58 rfl f_M_76 rfl (by first | exact ga G (by decide) rfl | assumption) (by first | exact gr G (by decide) rfl | assumption) ?_
        | refine T_iload_n (pc1 := 62) (pc := 61) k_M_ask_61 rfl rfl ?_
        | refine T_ialdN (pc1 := 63) (pc := 62) k_M_ask_62 rfl (by first | exact ga G (by decide) rfl | assumption) (by omega) (by omega) (by first | assumption | (simp (disch := omega) only [pI_eq, pI_row, pI_col, va_up_self, va_up_ne, ne_eq, not_false_eq_true, hTh, h] <;> rfl) | rfl) ?_
        | refine T_iald (pc1 := 63) (pc := 62) k_M_ask_62 rfl (by first | exact ga G (by decide) rfl | assumption) (by assumption) ?_
        | refine T_aload_n (pc1 := 64) (pc := 63) k_M_ask_63 rfl rfl ?_
        | refine T_aload_nN (pc1 := 64) (pc := 63) k_M_ask_63 rfl rfl ?_
        | refine T_getR (pc1 := 67) (pc := 64) k_M_ask_64 rfl f_M_76 rfl (by first | exact ga G (by decide) rfl | assumption) (by first | exact gr G (by decide) rfl | assumption) ?_
        | refine T_iload_n (pc1 := 68) (pc := 67) k_M_ask_67 rfl rfl ?_
        | refine T_iconst (v := (nI 1)) (pc1 := 69) (pc := 68) k_M_ask_68 rfl (by decide) ?_
        | with_reducible refine T_iaddN (pc1 := 70) (pc := 69) k_M_ask_69 (by decide) ?_
        | refine T_iadd (pc1 := 70) (pc := 69) k_M_ask_69 rfl ?_
        | refine T_ialdN (pc1 := 71) (pc := 70) k_M_ask_70 rfl (by first | exact ga G (by decide) rfl | assumption) (by omega) (by omega) (by first | assumption | (simp (disch := omega) only [pI_eq, pI_row, pI_col, va_up_self, va_up_ne, ne_eq, not_false_eq_true, hTh, h] <;> rfl) | rfl) ?_
        | refine T_iald (pc1 := 71) (pc := 70) k_M_ask_70 rfl (by first | exact ga G (by decide) rfl | assumption) (by assumption) ?_
        | (refine T_cS (As := [_, _]) (d1 := 1) (pc1 := 74) (pc := 71) k_M_ask_71 rfl (by decide) (Nat.le_of_ble_eq_true rfl) rfl o_M_worth l_M_152 rfl (c_M_worth (by omega) ?_) <;> try dsimp only [psh])
        | refine T_goto (tgt := 79) (pc := 74) k_M_ask_74 rfl ?_
        | refine T_ldc (v := (-1000000012)) (pc1 := 79) (pc := 77) k_M_ask_77 rfl c_M_155 ?_
        | refine T_retI (pc := 79) k_M_ask_79 rfl (by first | rfl | decide | assumption) ?_)
      all_goals first | exact kk _ rfl | contradiction
    · rw [h, hk1, hk2, nI_clamp (by omega), if_neg (by decide)] at kk
      cases hU : und kd o
      · rw [hU, if_neg (fun q => absurd q.2 (by decide))] at kk
        repeat' (first
          | refine T_iload_n (pc1 := 1) (pc := 0) k_M_ask_0 rfl rfl ?_
          | (refine T_cS (As := [_]) (d1 := 2) (pc1 := 4) (pc := 1) k_M_ask_1 rfl (by decide) (Nat.le_of_ble_eq_true rfl) rfl o_M_isSlot l_M_300 rfl (c_M_isSlot (fun hw => ?_) (fun hw => ?_)) <;> try dsimp only [psh])
          | (with_reducible refine T_if_eqN (tgt := 14) (pc1 := 7) (pc := 4) k_M_ask_4 (by decide) (by decide) (by omega) (fun hc => ?_) (fun hc => ?_) <;> first | (exfalso; omega) | skip)
          | refine T_if_eq_t (tgt := 14) (pc := 4) k_M_ask_4 rfl (by decide) ?_
          | refine T_if_eq_f (tgt := 14) (pc1 := 7) (pc := 4) k_M_ask_4 rfl rfl (by decide) ?_
          | refine T_if_eq (tgt := 14) (pc1 := 7) (pc := 4) k_M_ask_4 rfl rfl (fun hc => ?_) (fun hc => ?_)
          | refine T_iload_n (pc1 := 8) (pc := 7) k_M_ask_7 rfl rfl ?_
          | (refine T_cS (As := [_]) (d1 := 2) (pc1 := 11) (pc := 8) k_M_ask_8 rfl (by decide) (Nat.le_of_ble_eq_true rfl) rfl o_M_isKind l_M_104 rfl (c_M_isKind (fun hw => ?_) (fun hw => ?_)) <;> try dsimp only [psh])
          | (with_reducible refine T_if_neN (tgt := 17) (pc1 := 14) (pc := 11) k_M_ask_11 (by decide) (by decide) (by omega) (fun hc => ?_) (fun hc => ?_) <;> first | (exfalso; omega) | skip)
          | refine T_if_ne_t (tgt := 17) (pc := 11) k_M_ask_11 rfl (by decide) ?_
          | refine T_if_ne_f (tgt := 17) (pc1 := 14) (pc := 11) k_M_ask_11 rfl rfl (by decide) ?_
          | refine T_if_ne (tgt := 17) (pc1 := 14) (pc := 11) k_M_ask_11 rfl rfl (fun hc => ?_) (fun hc => ?_)
          | refine T_ldc (v := (-1000000001)) (pc1 := 16) (pc := 14) k_M_ask_14 rfl c_M_111 ?_
          | refine T_retI (pc := 16) k_M_ask_16 rfl (by first | rfl | decide | assumption) ?_
          | refine T_aload_n (pc1 := 18) (pc := 17) k_M_ask_17 rfl rfl ?_
          | refine T_aload_nN (pc1 := 18) (pc := 17) k_M_ask_17 rfl rfl ?_
          | refine T_getR (pc1 := 21) (pc := 18) k_M_ask_18 rfl f_M_73 rfl (by first | exact ga G (by decide) rfl | assumption) (by first | exact gr G (by decide) rfl | assumption) ?_
          | refine T_iload_n (pc1 := 22) (pc := 21) k_M_ask_21 rfl rfl ?_
          | refine T_ialdN (pc1 := 23) (pc := 22) k_M_ask_22 rfl (by first | exact ga G (by decide) rfl | assumption) (by omega) (by omega) (by first | assumption | (simp (disch := omega) only [pI_eq, pI_row, pI_col, va_up_self, va_up_ne, ne_eq, not_false_eq_true, hTh, hHe, h, hk1, hk2] <;> rfl) | rfl) ?_
          | refine T_iald (pc1 := 23) (pc := 22) k_M_ask_22 rfl (by first | exact ga G (by decide) rfl | assumption) (by assumption) ?_
          | (with_reducible refine T_if_neN (tgt := 29) (pc1 := 26) (pc := 23) k_M_ask_23 (by decide) (by decide) (by omega) (fun hc => ?_) (fun hc => ?_) <;> first | (exfalso; omega) | skip)
          | refine T_if_ne_t (tgt := 29) (pc := 23) k_M_ask_23 rfl (by decide) ?_
          | refine T_if_ne_f (tgt := 29) (pc1 := 26) (pc := 23) k_M_ask_23 rfl rfl (by decide) ?_
          | refine T_if_ne (tgt := 29) (pc1 := 26) (pc := 23) k_M_ask_23 rfl rfl (fun hc => ?_) (fun hc => ?_)
          | refine T_ldc (v := (-1000000011)) (pc1 := 28) (pc := 26) k_M_ask_26 rfl c_M_196 ?_
          | refine T_retI (pc := 28) k_M_ask_28 rfl (by first | rfl | decide | assumption) ?_
          | refine T_bipush (v := (nI 25)) (pc1 := 31) (pc := 29) k_M_ask_29 rfl (by decide) ?_
          | refine T_iload_n (pc1 := 32) (pc := 31) k_M_ask_31 rfl rfl ?_
          | with_reducible refine T_imulN (pc1 := 33) (pc := 32) k_M_ask_32 (by decide) ?_
          | refine T_imul (pc1 := 33) (pc := 32) k_M_ask_32 rfl ?_
          | refine T_istore_n (pc1 := 34) (pc := 33) k_M_ask_33 rfl (Nat.le_of_ble_eq_true rfl) ?_
          | refine T_aload_n (pc1 := 35) (pc := 34) k_M_ask_34 rfl rfl ?_
          | refine T_aload_nN (pc1 := 35) (pc := 34) k_M_ask_34 rfl rfl ?_
          | refine T_getR (pc1 := 38) (pc := 35) k_M_ask_35 rfl f_M_73 rfl (by first | exact ga G (by decide) rfl | assumption) (by first | exact gr G (by decide) rfl | assumption) ?_
          | refine T_iload_n (pc1 := 39) (pc := 38) k_M_ask_38 rfl rfl ?_
          | refine T_ialdN (pc1 := 40) (pc := 39) k_M_ask_39 rfl (by first | exact ga G (by decide) rfl | assumption) (by omega) (by omega) (by first | assumption | (simp (disch := omega) only [pI_eq, pI_row, pI_col, va_up_self, va_up_ne, ne_eq, not_false_eq_true, hTh, hHe, h, hk1, hk2] <;> rfl) | rfl) ?_
          | refine T_iald (pc1 := 40) (pc := 39) k_M_ask_39 rfl (by first | exact ga G (by decide) rfl | assumption) (by assumption) ?_
          | refine T_iconst (v := (nI 1)) (pc1 := 41) (pc := 40) k_M_ask_40 rfl (by decide) ?_
          | (with_reducible refine T_icmp_neN (tgt := 77) (pc1 := 44) (pc := 41) k_M_ask_41 (by decide) (by decide) (by omega) (by omega) (fun hc => ?_) (fun hc => ?_) <;> first | (exfalso; omega) | skip)
          | refine T_icmp_ne_t (tgt := 77) (pc := 41) k_M_ask_41 rfl (by decide) ?_
          | refine T_icmp_ne_f (tgt := 77) (pc1 := 44) (pc := 41) k_M_ask_41 rfl rfl (by decide) ?_
          | refine T_icmp_ne (tgt := 77) (pc1 := 44) (pc := 41) k_M_ask_41 rfl rfl (fun hc => ?_) (fun hc => ?_)
          | refine T_aload_n (pc1 := 45) (pc := 44) k_M_ask_44 rfl rfl ?_
          | refine T_aload_nN (pc1 := 45) (pc := 44) k_M_ask_44 rfl rfl ?_
          | refine T_getR (pc1 := 48) (pc := 45) k_M_ask_45 rfl f_M_76 rfl (by first | exact ga G (by decide) rfl | assumption) (by first | exact gr G (by decide) rfl | assumption) ?_
          | refine T_iload_n (pc1 := 49) (pc := 48) k_M_ask_48 rfl rfl ?_
          | refine T_ialdN (pc1 := 50) (pc := 49) k_M_ask_49 rfl (by first | exact ga G (by decide) rfl | assumption) (by omega) (by omega) (by first | assumption | (simp (disch := omega) only [pI_eq, pI_row, pI_col, va_up_self, va_up_ne, ne_eq, not_false_eq_true, hTh, hHe, h, hk1, hk2] <;> rfl) | rfl) ?_
          | refine T_iald (pc1 := 50) (pc := 49) k_M_ask_49 rfl (by first | exact ga G (by decide) rfl | assumption) (by assumption) ?_
          | refine T_iload_n (pc1 := 51) (pc := 50) k_M_ask_50 rfl rfl ?_
          | (refine T_cS (As := [_, _]) (d1 := 2) (pc1 := 54) (pc := 51) k_M_ask_51 rfl (by decide) (Nat.le_of_ble_eq_true rfl) rfl o_M_isUnder l_M_137 rfl (c_M_isUnder (by omega) (by omega) (fun hu => ?_) (fun hu => ?_)) <;> try dsimp only [psh])
          | (with_reducible refine T_if_eqN (tgt := 77) (pc1 := 57) (pc := 54) k_M_ask_54 (by decide) (by decide) (by omega) (fun hc => ?_) (fun hc => ?_) <;> first | (exfalso; omega) | skip)
          | refine T_if_eq_t (tgt := 77) (pc := 54) k_M_ask_54 rfl (by decide) ?_
          | refine T_if_eq_f (tgt := 77) (pc1 := 57) (pc := 54) k_M_ask_54 rfl rfl (by decide) ?_
          | refine T_if_eq (tgt := 77) (pc1 := 57) (pc := 54) k_M_ask_54 rfl rfl (fun hc => ?_) (fun hc => ?_)
          | refine T_aload_n (pc1 := 58) (pc := 57) k_M_ask_57 rfl rfl ?_
          | refine T_aload_nN (pc1 := 58) (pc := 57) k_M_ask_57 rfl rfl ?_
          | refine T_getR (pc1 := 61) (pc := 58) k_M_ask_58 rfl f_M_76 rfl (by first | exact ga G (by decide) rfl | assumption) (by first | exact gr G (by decide) rfl | assumption) ?_
          | refine T_iload_n (pc1 := 62) (pc := 61) k_M_ask_61 rfl rfl ?_
          | refine T_ialdN (pc1 := 63) (pc := 62) k_M_ask_62 rfl (by first | exact ga G (by decide) rfl | assumption) (by omega) (by omega) (by first | assumption | (simp (disch := omega) only [pI_eq, pI_row, pI_col, va_up_self, va_up_ne, ne_eq, not_false_eq_true, hTh, hHe, h, hk1, hk2] <;> rfl) | rfl) ?_
          | refine T_iald (pc1 := 63) (pc := 62) k_M_ask_62 rfl (by first | exact ga G (by decide) rfl | assumption) (by assumption) ?_
          | refine T_aload_n (pc1 := 64) (pc := 63) k_M_ask_63 rfl rfl ?_
          | refine T_aload_nN (pc1 := 64) (pc := 63) k_M_ask_63 rfl rfl ?_
          | refine T_getR (pc1 := 67) (pc := 64) k_M_ask_64 rfl f_M_76 rfl (by first | exact ga G (by decide) rfl | assumption) (by first | exact gr G (by decide) rfl | assumption) ?_
          | refine T_iload_n (pc1 := 68) (pc := 67) k_M_ask_67 rfl rfl ?_
          | refine T_iconst (v := (nI 1)) (pc1 := 69) (pc := 68) k_M_ask_68 rfl (by decide) ?_
          | with_reducible refine T_iaddN (pc1 := 70) (pc := 69) k_M_ask_69 (by decide) ?_
          | refine T_iadd (pc1 := 70) (pc := 69) k_M_ask_69 rfl ?_
          | refine T_ialdN (pc1 := 71) (pc := 70) k_M_ask_70 rfl (by first | exact ga G (by decide) rfl | assumption) (by omega) (by omega) (by first | assumption | (simp (disch := omega) only [pI_eq, pI_row, pI_col, va_up_self, va_up_ne, ne_eq, not_false_eq_true, hTh, hHe, h, hk1, hk2] <;> rfl) | rfl) ?_
          | refine T_iald (pc1 := 71) (pc := 70) k_M_ask_70 rfl (by first | exact ga G (by decide) rfl | assumption) (by assumption) ?_
          | (refine T_cS (As := [_, _]) (d1 := 1) (pc1 := 74) (pc := 71) k_M_ask_71 rfl (by decide) (Nat.le_of_ble_eq_true rfl) rfl o_M_worth l_M_152 rfl (c_M_worth (by omega) ?_) <;> try dsimp only [psh])
          | refine T_goto (tgt := 79) (pc := 74) k_M_ask_74 rfl ?_
          | refine T_ldc (v := (-1000000012)) (pc1 := 79) (pc := 77) k_M_ask_77 rfl c_M_155 ?_
          | refine T_retI (pc := 79) k_M_ask_79 rfl (by first | rfl | decide | assumption) ?_)
        all_goals first | contradiction | exact kk _ rfl | (rw [hU] at hu; cases hu)
      · rw [hU, if_pos ⟨rfl, rfl⟩] at kk
        repeat' (first
          | refine T_iload_n (pc1 := 1) (pc := 0) k_M_ask_0 rfl rfl ?_
          | (refine T_cS (As := [_]) (d1 := 2) (pc1 := 4) (pc := 1) k_M_ask_1 rfl (by decide) (Nat.le_of_ble_eq_true rfl) rfl o_M_isSlot l_M_300 rfl (c_M_isSlot (fun hw => ?_) (fun hw => ?_)) <;> try dsimp only [psh])
          | (with_reducible refine T_if_eqN (tgt := 14) (pc1 := 7) (pc := 4) k_M_ask_4 (by decide) (by decide) (by omega) (fun hc => ?_) (fun hc => ?_) <;> first | (exfalso; omega) | skip)
          | refine T_if_eq_t (tgt := 14) (pc := 4) k_M_ask_4 rfl (by decide) ?_
          | refine T_if_eq_f (tgt := 14) (pc1 := 7) (pc := 4) k_M_ask_4 rfl rfl (by decide) ?_
          | refine T_if_eq (tgt := 14) (pc1 := 7) (pc := 4) k_M_ask_4 rfl rfl (fun hc => ?_) (fun hc => ?_)
          | refine T_iload_n (pc1 := 8) (pc := 7) k_M_ask_7 rfl rfl ?_
          | (refine T_cS (As := [_]) (d1 := 2) (pc1 := 11) (pc := 8) k_M_ask_8 rfl (by decide) (Nat.le_of_ble_eq_true rfl) rfl o_M_isKind l_M_104 rfl (c_M_isKind (fun hw => ?_) (fun hw => ?_)) <;> try dsimp only [psh])
          | (with_reducible refine T_if_neN (tgt := 17) (pc1 := 14) (pc := 11) k_M_ask_11 (by decide) (by decide) (by omega) (fun hc => ?_) (fun hc => ?_) <;> first | (exfalso; omega) | skip)
          | refine T_if_ne_t (tgt := 17) (pc := 11) k_M_ask_11 rfl (by decide) ?_
          | refine T_if_ne_f (tgt := 17) (pc1 := 14) (pc := 11) k_M_ask_11 rfl rfl (by decide) ?_
          | refine T_if_ne (tgt := 17) (pc1 := 14) (pc := 11) k_M_ask_11 rfl rfl (fun hc => ?_) (fun hc => ?_)
          | refine T_ldc (v := (-1000000001)) (pc1 := 16) (pc := 14) k_M_ask_14 rfl c_M_111 ?_
          | refine T_retI (pc := 16) k_M_ask_16 rfl (by first | rfl | decide | assumption) ?_
          | refine T_aload_n (pc1 := 18) (pc := 17) k_M_ask_17 rfl rfl ?_
          | refine T_aload_nN (pc1 := 18) (pc := 17) k_M_ask_17 rfl rfl ?_
          | refine T_getR (pc1 := 21) (pc := 18) k_M_ask_18 rfl f_M_73 rfl (by first | exact ga G (by decide) rfl | assumption) (by first | exact gr G (by decide) rfl | assumption) ?_
          | refine T_iload_n (pc1 := 22) (pc := 21) k_M_ask_21 rfl rfl ?_
          | refine T_ialdN (pc1 := 23) (pc := 22) k_M_ask_22 rfl (by first | exact ga G (by decide) rfl | assumption) (by omega) (by omega) (by first | assumption | (simp (disch := omega) only [pI_eq, pI_row, pI_col, va_up_self, va_up_ne, ne_eq, not_false_eq_true, hTh, hHe, h, hk1, hk2] <;> rfl) | rfl) ?_
          | refine T_iald (pc1 := 23) (pc := 22) k_M_ask_22 rfl (by first | exact ga G (by decide) rfl | assumption) (by assumption) ?_
          | (with_reducible refine T_if_neN (tgt := 29) (pc1 := 26) (pc := 23) k_M_ask_23 (by decide) (by decide) (by omega) (fun hc => ?_) (fun hc => ?_) <;> first | (exfalso; omega) | skip)
          | refine T_if_ne_t (tgt := 29) (pc := 23) k_M_ask_23 rfl (by decide) ?_
          | refine T_if_ne_f (tgt := 29) (pc1 := 26) (pc := 23) k_M_ask_23 rfl rfl (by decide) ?_
          | refine T_if_ne (tgt := 29) (pc1 := 26) (pc := 23) k_M_ask_23 rfl rfl (fun hc => ?_) (fun hc => ?_)
          | refine T_ldc (v := (-1000000011)) (pc1 := 28) (pc := 26) k_M_ask_26 rfl c_M_196 ?_
          | refine T_retI (pc := 28) k_M_ask_28 rfl (by first | rfl | decide | assumption) ?_
          | refine T_bipush (v := (nI 25)) (pc1 := 31) (pc := 29) k_M_ask_29 rfl (by decide) ?_
          | refine T_iload_n (pc1 := 32) (pc := 31) k_M_ask_31 rfl rfl ?_
          | with_reducible refine T_imulN (pc1 := 33) (pc := 32) k_M_ask_32 (by decide) ?_
          | refine T_imul (pc1 := 33) (pc := 32) k_M_ask_32 rfl ?_
          | refine T_istore_n (pc1 := 34) (pc := 33) k_M_ask_33 rfl (Nat.le_of_ble_eq_true rfl) ?_
          | refine T_aload_n (pc1 := 35) (pc := 34) k_M_ask_34 rfl rfl ?_
          | refine T_aload_nN (pc1 := 35) (pc := 34) k_M_ask_34 rfl rfl ?_
          | refine T_getR (pc1 := 38) (pc := 35) k_M_ask_35 rfl f_M_73 rfl (by first | exact ga G (by decide) rfl | assumption) (by first | exact gr G (by decide) rfl | assumption) ?_
          | refine T_iload_n (pc1 := 39) (pc := 38) k_M_ask_38 rfl rfl ?_
          | refine T_ialdN (pc1 := 40) (pc := 39) k_M_ask_39 rfl (by first | exact ga G (by decide) rfl | assumption) (by omega) (by omega) (by first | assumption | (simp (disch := omega) only [pI_eq, pI_row, pI_col, va_up_self, va_up_ne, ne_eq, not_false_eq_true, hTh, hHe, h, hk1, hk2] <;> rfl) | rfl) ?_
          | refine T_iald (pc1 := 40) (pc := 39) k_M_ask_39 rfl (by first | exact ga G (by decide) rfl | assumption) (by assumption) ?_
          | refine T_iconst (v := (nI 1)) (pc1 := 41) (pc := 40) k_M_ask_40 rfl (by decide) ?_
          | (with_reducible refine T_icmp_neN (tgt := 77) (pc1 := 44) (pc := 41) k_M_ask_41 (by decide) (by decide) (by omega) (by omega) (fun hc => ?_) (fun hc => ?_) <;> first | (exfalso; omega) | skip)
          | refine T_icmp_ne_t (tgt := 77) (pc := 41) k_M_ask_41 rfl (by decide) ?_
          | refine T_icmp_ne_f (tgt := 77) (pc1 := 44) (pc := 41) k_M_ask_41 rfl rfl (by decide) ?_
          | refine T_icmp_ne (tgt := 77) (pc1 := 44) (pc := 41) k_M_ask_41 rfl rfl (fun hc => ?_) (fun hc => ?_)
          | refine T_aload_n (pc1 := 45) (pc := 44) k_M_ask_44 rfl rfl ?_
          | refine T_aload_nN (pc1 := 45) (pc := 44) k_M_ask_44 rfl rfl ?_
          | refine T_getR (pc1 := 48) (pc := 45) k_M_ask_45 rfl f_M_76 rfl (by first | exact ga G (by decide) rfl | assumption) (by first | exact gr G (by decide) rfl | assumption) ?_
          | refine T_iload_n (pc1 := 49) (pc := 48) k_M_ask_48 rfl rfl ?_
          | refine T_ialdN (pc1 := 50) (pc := 49) k_M_ask_49 rfl (by first | exact ga G (by decide) rfl | assumption) (by omega) (by omega) (by first | assumption | (simp (disch := omega) only [pI_eq, pI_row, pI_col, va_up_self, va_up_ne, ne_eq, not_false_eq_true, hTh, hHe, h, hk1, hk2] <;> rfl) | rfl) ?_
          | refine T_iald (pc1 := 50) (pc := 49) k_M_ask_49 rfl (by first | exact ga G (by decide) rfl | assumption) (by assumption) ?_
          | refine T_iload_n (pc1 := 51) (pc := 50) k_M_ask_50 rfl rfl ?_
          | (refine T_cS (As := [_, _]) (d1 := 2) (pc1 := 54) (pc := 51) k_M_ask_51 rfl (by decide) (Nat.le_of_ble_eq_true rfl) rfl o_M_isUnder l_M_137 rfl (c_M_isUnder (by omega) (by omega) (fun hu => ?_) (fun hu => ?_)) <;> try dsimp only [psh])
          | (with_reducible refine T_if_eqN (tgt := 77) (pc1 := 57) (pc := 54) k_M_ask_54 (by decide) (by decide) (by omega) (fun hc => ?_) (fun hc => ?_) <;> first | (exfalso; omega) | skip)
          | refine T_if_eq_t (tgt := 77) (pc := 54) k_M_ask_54 rfl (by decide) ?_
          | refine T_if_eq_f (tgt := 77) (pc1 := 57) (pc := 54) k_M_ask_54 rfl rfl (by decide) ?_
          | refine T_if_eq (tgt := 77) (pc1 := 57) (pc := 54) k_M_ask_54 rfl rfl (fun hc => ?_) (fun hc => ?_)
          | refine T_aload_n (pc1 := 58) (pc := 57) k_M_ask_57 rfl rfl ?_
          | refine T_aload_nN (pc1 := 58) (pc := 57) k_M_ask_57 rfl rfl ?_
          | refine T_getR (pc1 := 61) (pc := 58) k_M_ask_58 rfl f_M_76 rfl (by first | exact ga G (by decide) rfl | assumption) (by first | exact gr G (by decide) rfl | assumption) ?_
          | refine T_iload_n (pc1 := 62) (pc := 61) k_M_ask_61 rfl rfl ?_
          | refine T_ialdN (pc1 := 63) (pc := 62) k_M_ask_62 rfl (by first | exact ga G (by decide) rfl | assumption) (by omega) (by omega) (by first | assumption | (simp (disch := omega) only [pI_eq, pI_row, pI_col, va_up_self, va_up_ne, ne_eq, not_false_eq_true, hTh, hHe, h, hk1, hk2] <;> rfl) | rfl) ?_
          | refine T_iald (pc1 := 63) (pc := 62) k_M_ask_62 rfl (by first | exact ga G (by decide) rfl | assumption) (by assumption) ?_
          | refine T_aload_n (pc1 := 64) (pc := 63) k_M_ask_63 rfl rfl ?_
          | refine T_aload_nN (pc1 := 64) (pc := 63) k_M_ask_63 rfl rfl ?_
          | refine T_getR (pc1 := 67) (pc := 64) k_M_ask_64 rfl f_M_76 rfl (by first | exact ga G (by decide) rfl | assumption) (by first | exact gr G (by decide) rfl | assumption) ?_
          | refine T_iload_n (pc1 := 68) (pc := 67) k_M_ask_67 rfl rfl ?_
          | refine T_iconst (v := (nI 1)) (pc1 := 69) (pc := 68) k_M_ask_68 rfl (by decide) ?_
          | with_reducible refine T_iaddN (pc1 := 70) (pc := 69) k_M_ask_69 (by decide) ?_
          | refine T_iadd (pc1 := 70) (pc := 69) k_M_ask_69 rfl ?_
          | refine T_ialdN (pc1 := 71) (pc := 70) k_M_ask_70 rfl (by first | exact ga G (by decide) rfl | assumption) (by omega) (by omega) (by first | assumption | (simp (disch := omega) only [pI_eq, pI_row, pI_col, va_up_self, va_up_ne, ne_eq, not_false_eq_true, hTh, hHe, h, hk1, hk2] <;> rfl) | rfl) ?_
          | refine T_iald (pc1 := 71) (pc := 70) k_M_ask_70 rfl (by first | exact ga G (by decide) rfl | assumption) (by assumption) ?_
          | (refine T_cS (As := [_, _]) (d1 := 1) (pc1 := 74) (pc := 71) k_M_ask_71 rfl (by decide) (Nat.le_of_ble_eq_true rfl) rfl o_M_worth l_M_152 rfl (c_M_worth (by omega) ?_) <;> try dsimp only [psh])
          | refine T_goto (tgt := 79) (pc := 74) k_M_ask_74 rfl ?_
          | refine T_ldc (v := (-1000000012)) (pc1 := 79) (pc := 77) k_M_ask_77 rfl c_M_155 ?_
          | refine T_retI (pc := 79) k_M_ask_79 rfl (by first | rfl | decide | assumption) ?_)
        all_goals first | contradiction | exact kk _ rfl | (rw [hU] at hu; cases hu)
    · rw [h] at kk
      repeat' (first
        | refine T_iload_n (pc1 := 1) (pc := 0) k_M_ask_0 rfl rfl ?_
        | (refine T_cS (As := [_]) (d1 := 2) (pc1 := 4) (pc := 1) k_M_ask_1 rfl (by decide) (Nat.le_of_ble_eq_true rfl) rfl o_M_isSlot l_M_300 rfl (c_M_isSlot (fun hw => ?_) (fun hw => ?_)) <;> try dsimp only [psh])
        | (with_reducible refine T_if_eqN (tgt := 14) (pc1 := 7) (pc := 4) k_M_ask_4 (by decide) (by decide) (by omega) (fun hc => ?_) (fun hc => ?_) <;> first | (exfalso; omega) | skip)
        | refine T_if_eq_t (tgt := 14) (pc := 4) k_M_ask_4 rfl (by decide) ?_
        | refine T_if_eq_f (tgt := 14) (pc1 := 7) (pc := 4) k_M_ask_4 rfl rfl (by decide) ?_
        | refine T_if_eq (tgt := 14) (pc1 := 7) (pc := 4) k_M_ask_4 rfl rfl (fun hc => ?_) (fun hc => ?_)
        | refine T_iload_n (pc1 := 8) (pc := 7) k_M_ask_7 rfl rfl ?_
        | (refine T_cS (As := [_]) (d1 := 2) (pc1 := 11) (pc := 8) k_M_ask_8 rfl (by decide) (Nat.le_of_ble_eq_true rfl) rfl o_M_isKind l_M_104 rfl (c_M_isKind (fun hw => ?_) (fun hw => ?_)) <;> try dsimp only [psh])
        | (with_reducible refine T_if_neN (tgt := 17) (pc1 := 14) (pc := 11) k_M_ask_11 (by decide) (by decide) (by omega) (fun hc => ?_) (fun hc => ?_) <;> first | (exfalso; omega) | skip)
        | refine T_if_ne_t (tgt := 17) (pc := 11) k_M_ask_11 rfl (by decide) ?_
        | refine T_if_ne_f (tgt := 17) (pc1 := 14) (pc := 11) k_M_ask_11 rfl rfl (by decide) ?_
        | refine T_if_ne (tgt := 17) (pc1 := 14) (pc := 11) k_M_ask_11 rfl rfl (fun hc => ?_) (fun hc => ?_)
        | refine T_ldc (v := (-1000000001)) (pc1 := 16) (pc := 14) k_M_ask_14 rfl c_M_111 ?_
        | refine T_retI (pc := 16) k_M_ask_16 rfl (by first | rfl | decide | assumption) ?_
        | refine T_aload_n (pc1 := 18) (pc := 17) k_M_ask_17 rfl rfl ?_
        | refine T_aload_nN (pc1 := 18) (pc := 17) k_M_ask_17 rfl rfl ?_
        | refine T_getR (pc1 := 21) (pc := 18) k_M_ask_18 rfl f_M_73 rfl (by first | exact ga G (by decide) rfl | assumption) (by first | exact gr G (by decide) rfl | assumption) ?_
        | refine T_iload_n (pc1 := 22) (pc := 21) k_M_ask_21 rfl rfl ?_
        | refine T_ialdN (pc1 := 23) (pc := 22) k_M_ask_22 rfl (by first | exact ga G (by decide) rfl | assumption) (by omega) (by omega) (by first | assumption | (simp (disch := omega) only [pI_eq, pI_row, pI_col, va_up_self, va_up_ne, ne_eq, not_false_eq_true, hTh, h] <;> rfl) | rfl) ?_
        | refine T_iald (pc1 := 23) (pc := 22) k_M_ask_22 rfl (by first | exact ga G (by decide) rfl | assumption) (by assumption) ?_
        | (with_reducible refine T_if_neN (tgt := 29) (pc1 := 26) (pc := 23) k_M_ask_23 (by decide) (by decide) (by omega) (fun hc => ?_) (fun hc => ?_) <;> first | (exfalso; omega) | skip)
        | refine T_if_ne_t (tgt := 29) (pc := 23) k_M_ask_23 rfl (by decide) ?_
        | refine T_if_ne_f (tgt := 29) (pc1 := 26) (pc := 23) k_M_ask_23 rfl rfl (by decide) ?_
        | refine T_if_ne (tgt := 29) (pc1 := 26) (pc := 23) k_M_ask_23 rfl rfl (fun hc => ?_) (fun hc => ?_)
        | refine T_ldc (v := (-1000000011)) (pc1 := 28) (pc := 26) k_M_ask_26 rfl c_M_196 ?_
        | refine T_retI (pc := 28) k_M_ask_28 rfl (by first | rfl | decide | assumption) ?_
        | refine T_bipush (v := (nI 25)) (pc1 := 31) (pc := 29) k_M_ask_29 rfl (by decide) ?_
        | refine T_iload_n (pc1 := 32) (pc := 31) k_M_ask_31 rfl rfl ?_
        | with_reducible refine T_imulN (pc1 := 33) (pc := 32) k_M_ask_32 (by decide) ?_
        | refine T_imul (pc1 := 33) (pc := 32) k_M_ask_32 rfl ?_
        | refine T_istore_n (pc1 := 34) (pc := 33) k_M_ask_33 rfl (Nat.le_of_ble_eq_true rfl) ?_
        | refine T_aload_n (pc1 := 35) (pc := 34) k_M_ask_34 rfl rfl ?_
        | refine T_aload_nN (pc1 := 35) (pc := 34) k_M_ask_34 rfl rfl ?_
        | refine T_getR (pc1 := 38) (pc := 35) k_M_ask_35 rfl f_M_73 rfl (by first | exact ga G (by decide) rfl | assumption) (by first | exact gr G (by decide) rfl | assumption) ?_
        | refine T_iload_n (pc1 := 39) (pc := 38) k_M_ask_38 rfl rfl ?_
        | refine T_ialdN (pc1 := 40) (pc := 39) k_M_ask_39 rfl (by first | exact ga G (by decide) rfl | assumption) (by omega) (by omega) (by first | assumption | (simp (disch := omega) only [pI_eq, pI_row, pI_col, va_up_self, va_up_ne, ne_eq, not_false_eq_true, hTh, h] <;> rfl) | rfl) ?_
        | refine T_iald (pc1 := 40) (pc := 39) k_M_ask_39 rfl (by first | exact ga G (by decide) rfl | assumption) (by assumption) ?_
        | refine T_iconst (v := (nI 1)) (pc1 := 41) (pc := 40) k_M_ask_40 rfl (by decide) ?_
        | (with_reducible refine T_icmp_neN (tgt := 77) (pc1 := 44) (pc := 41) k_M_ask_41 (by decide) (by decide) (by omega) (by omega) (fun hc => ?_) (fun hc => ?_) <;> first | (exfalso; omega) | skip)
        | refine T_icmp_ne_t (tgt := 77) (pc := 41) k_M_ask_41 rfl (by decide) ?_
        | refine T_icmp_ne_f (tgt := 77) (pc1 := 44) (pc := 41) k_M_ask_41 rfl rfl (by decide) ?_
        | refine T_icmp_ne (tgt := 77) (pc1 := 44) (pc := 41) k_M_ask_41 rfl rfl (fun hc => ?_) (fun hc => ?_)
        | refine T_aload_n (pc1 := 45) (pc := 44) k_M_ask_44 rfl rfl ?_
        | refine T_aload_nN (pc1 := 45) (pc := 44) k_M_ask_44 rfl rfl ?_
        | refine T_getR (pc1 := 48) (pc := 45) k_M_ask_45 rfl f_M_76 rfl (by first | exact ga G (by decide) rfl | assumption) (by first | exact gr G (by decide) rfl | assumption) ?_
        | refine T_iload_n (pc1 := 49) (pc := 48) k_M_ask_48 rfl rfl ?_
        | refine T_ialdN (pc1 := 50) (pc := 49) k_M_ask_49 rfl (by first | exact ga G (by decide) rfl | assumption) (by omega) (by omega) (by first | assumption | (simp (disch := omega) only [pI_eq, pI_row, pI_col, va_up_self, va_up_ne, ne_eq, not_false_eq_true, hTh, h] <;> rfl) | rfl) ?_
        | refine T_iald (pc1 := 50) (pc := 49) k_M_ask_49 rfl (by first | exact ga G (by decide) rfl | assumption) (by assumption) ?_
        | refine T_iload_n (pc1 := 51) (pc := 50) k_M_ask_50 rfl rfl ?_
        | (refine T_cS (As := [_, _]) (d1 := 2) (pc1 := 54) (pc := 51) k_M_ask_51 rfl (by decide) (Nat.le_of_ble_eq_true rfl) rfl o_M_isUnder l_M_137 rfl (c_M_isUnder (by omega) (by omega) (fun hu => ?_) (fun hu => ?_)) <;> try dsimp only [psh])
        | (with_reducible refine T_if_eqN (tgt := 77) (pc1 := 57) (pc := 54) k_M_ask_54 (by decide) (by decide) (by omega) (fun hc => ?_) (fun hc => ?_) <;> first | (exfalso; omega) | skip)
        | refine T_if_eq_t (tgt := 77) (pc := 54) k_M_ask_54 rfl (by decide) ?_
        | refine T_if_eq_f (tgt := 77) (pc1 := 57) (pc := 54) k_M_ask_54 rfl rfl (by decide) ?_
        | refine T_if_eq (tgt := 77) (pc1 := 57) (pc := 54) k_M_ask_54 rfl rfl (fun hc => ?_) (fun hc => ?_)
        | refine T_aload_n (pc1 := 58) (pc := 57) k_M_ask_57 rfl rfl ?_
        | refine T_aload_nN (pc1 := 58) (pc := 57) k_M_ask_57 rfl rfl ?_
        | refine T_getR (pc1 := 61) (pc := 58) k_M_ask_58 rfl f_M_76 rfl (by first | exact ga G (by decide) rfl | assumption) (by first | exact gr G (by decide) rfl | assumption) ?_
        | refine T_iload_n (pc1 := 62) (pc := 61) k_M_ask_61 rfl rfl ?_
        | refine T_ialdN (pc1 := 63) (pc := 62) k_M_ask_62 rfl (by first | exact ga G (by decide) rfl | assumption) (by omega) (by omega) (by first | assumption | (simp (disch := omega) only [pI_eq, pI_row, pI_col, va_up_self, va_up_ne, ne_eq, not_false_eq_true, hTh, h] <;> rfl) | rfl) ?_
        | refine T_iald (pc1 := 63) (pc := 62) k_M_ask_62 rfl (by first | exact ga G (by decide) rfl | assumption) (by assumption) ?_
        | refine T_aload_n (pc1 := 64) (pc := 63) k_M_ask_63 rfl rfl ?_
        | refine T_aload_nN (pc1 := 64) (pc := 63) k_M_ask_63 rfl rfl ?_
        | refine T_getR (pc1 := 67) (pc := 64) k_M_ask_64 rfl f_M_76 rfl (by first | exact ga G (by decide) rfl | assumption) (by first | exact gr G (by decide) rfl | assumption) ?_
        | refine T_iload_n (pc1 := 68) (pc := 67) k_M_ask_67 rfl rfl ?_
        | refine T_iconst (v := (nI 1)) (pc1 := 69) (pc := 68) k_M_ask_68 rfl (by decide) ?_
        | with_reducible refine T_iaddN (pc1 := 70) (pc := 69) k_M_ask_69 (by decide) ?_
        | refine T_iadd (pc1 := 70) (pc := 69) k_M_ask_69 rfl ?_
        | refine T_ialdN (pc1 := 71) (pc := 70) k_M_ask_70 rfl (by first | exact ga G (by decide) rfl | assumption) (by omega) (by omega) (by first | assumption | (simp (disch := omega) only [pI_eq, pI_row, pI_col, va_up_self, va_up_ne, ne_eq, not_false_eq_true, hTh, h] <;> rfl) | rfl) ?_
        | refine T_iald (pc1 := 71) (pc := 70) k_M_ask_70 rfl (by first | exact ga G (by decide) rfl | assumption) (by assumption) ?_
        | (refine T_cS (As := [_, _]) (d1 := 1) (pc1 := 74) (pc := 71) k_M_ask_71 rfl (by decide) (Nat.le_of_ble_eq_true rfl) rfl o_M_worth l_M_152 rfl (c_M_worth (by omega) ?_) <;> try dsimp only [psh])
        | refine T_goto (tgt := 79) (pc := 74) k_M_ask_74 rfl ?_
        | refine T_ldc (v := (-1000000012)) (pc1 := 79) (pc := 77) k_M_ask_77 rfl c_M_155 ?_
        | refine T_retI (pc := 79) k_M_ask_79 rfl (by first | rfl | decide | assumption) ?_)
      all_goals first | contradiction | exact kk _ (by rw [if_neg (by decide), if_neg (fun q => absurd q.1 (by decide))])
    · rw [h] at kk
      repeat' (first
        | refine T_iload_n (pc1 := 1) (pc := 0) k_M_ask_0 rfl rfl ?_
        | (refine T_cS (As := [_]) (d1 := 2) (pc1 := 4) (pc := 1) k_M_ask_1 rfl (by decide) (Nat.le_of_ble_eq_true rfl) rfl o_M_isSlot l_M_300 rfl (c_M_isSlot (fun hw => ?_) (fun hw => ?_)) <;> try dsimp only [psh])
        | (with_reducible refine T_if_eqN (tgt := 14) (pc1 := 7) (pc := 4) k_M_ask_4 (by decide) (by decide) (by omega) (fun hc => ?_) (fun hc => ?_) <;> first | (exfalso; omega) | skip)
        | refine T_if_eq_t (tgt := 14) (pc := 4) k_M_ask_4 rfl (by decide) ?_
        | refine T_if_eq_f (tgt := 14) (pc1 := 7) (pc := 4) k_M_ask_4 rfl rfl (by decide) ?_
        | refine T_if_eq (tgt := 14) (pc1 := 7) (pc := 4) k_M_ask_4 rfl rfl (fun hc => ?_) (fun hc => ?_)
        | refine T_iload_n (pc1 := 8) (pc := 7) k_M_ask_7 rfl rfl ?_
        | (refine T_cS (As := [_]) (d1 := 2) (pc1 := 11) (pc := 8) k_M_ask_8 rfl (by decide) (Nat.le_of_ble_eq_true rfl) rfl o_M_isKind l_M_104 rfl (c_M_isKind (fun hw => ?_) (fun hw => ?_)) <;> try dsimp only [psh])
        | (with_reducible refine T_if_neN (tgt := 17) (pc1 := 14) (pc := 11) k_M_ask_11 (by decide) (by decide) (by omega) (fun hc => ?_) (fun hc => ?_) <;> first | (exfalso; omega) | skip)
        | refine T_if_ne_t (tgt := 17) (pc := 11) k_M_ask_11 rfl (by decide) ?_
        | refine T_if_ne_f (tgt := 17) (pc1 := 14) (pc := 11) k_M_ask_11 rfl rfl (by decide) ?_
        | refine T_if_ne (tgt := 17) (pc1 := 14) (pc := 11) k_M_ask_11 rfl rfl (fun hc => ?_) (fun hc => ?_)
        | refine T_ldc (v := (-1000000001)) (pc1 := 16) (pc := 14) k_M_ask_14 rfl c_M_111 ?_
        | refine T_retI (pc := 16) k_M_ask_16 rfl (by first | rfl | decide | assumption) ?_
        | refine T_aload_n (pc1 := 18) (pc := 17) k_M_ask_17 rfl rfl ?_
        | refine T_aload_nN (pc1 := 18) (pc := 17) k_M_ask_17 rfl rfl ?_
        | refine T_getR (pc1 := 21) (pc := 18) k_M_ask_18 rfl f_M_73 rfl (by first | exact ga G (by decide) rfl | assumption) (by first | exact gr G (by decide) rfl | assumption) ?_
        | refine T_iload_n (pc1 := 22) (pc := 21) k_M_ask_21 rfl rfl ?_
        | refine T_ialdN (pc1 := 23) (pc := 22) k_M_ask_22 rfl (by first | exact ga G (by decide) rfl | assumption) (by omega) (by omega) (by first | assumption | (simp (disch := omega) only [pI_eq, pI_row, pI_col, va_up_self, va_up_ne, ne_eq, not_false_eq_true, hTh, h] <;> rfl) | rfl) ?_
        | refine T_iald (pc1 := 23) (pc := 22) k_M_ask_22 rfl (by first | exact ga G (by decide) rfl | assumption) (by assumption) ?_
        | (with_reducible refine T_if_neN (tgt := 29) (pc1 := 26) (pc := 23) k_M_ask_23 (by decide) (by decide) (by omega) (fun hc => ?_) (fun hc => ?_) <;> first | (exfalso; omega) | skip)
        | refine T_if_ne_t (tgt := 29) (pc := 23) k_M_ask_23 rfl (by decide) ?_
        | refine T_if_ne_f (tgt := 29) (pc1 := 26) (pc := 23) k_M_ask_23 rfl rfl (by decide) ?_
        | refine T_if_ne (tgt := 29) (pc1 := 26) (pc := 23) k_M_ask_23 rfl rfl (fun hc => ?_) (fun hc => ?_)
        | refine T_ldc (v := (-1000000011)) (pc1 := 28) (pc := 26) k_M_ask_26 rfl c_M_196 ?_
        | refine T_retI (pc := 28) k_M_ask_28 rfl (by first | rfl | decide | assumption) ?_
        | refine T_bipush (v := (nI 25)) (pc1 := 31) (pc := 29) k_M_ask_29 rfl (by decide) ?_
        | refine T_iload_n (pc1 := 32) (pc := 31) k_M_ask_31 rfl rfl ?_
        | with_reducible refine T_imulN (pc1 := 33) (pc := 32) k_M_ask_32 (by decide) ?_
        | refine T_imul (pc1 := 33) (pc := 32) k_M_ask_32 rfl ?_
        | refine T_istore_n (pc1 := 34) (pc := 33) k_M_ask_33 rfl (Nat.le_of_ble_eq_true rfl) ?_
        | refine T_aload_n (pc1 := 35) (pc := 34) k_M_ask_34 rfl rfl ?_
        | refine T_aload_nN (pc1 := 35) (pc := 34) k_M_ask_34 rfl rfl ?_
        | refine T_getR (pc1 := 38) (pc := 35) k_M_ask_35 rfl f_M_73 rfl (by first | exact ga G (by decide) rfl | assumption) (by first | exact gr G (by decide) rfl | assumption) ?_
        | refine T_iload_n (pc1 := 39) (pc := 38) k_M_ask_38 rfl rfl ?_
        | refine T_ialdN (pc1 := 40) (pc := 39) k_M_ask_39 rfl (by first | exact ga G (by decide) rfl | assumption) (by omega) (by omega) (by first | assumption | (simp (disch := omega) only [pI_eq, pI_row, pI_col, va_up_self, va_up_ne, ne_eq, not_false_eq_true, hTh, h] <;> rfl) | rfl) ?_
        | refine T_iald (pc1 := 40) (pc := 39) k_M_ask_39 rfl (by first | exact ga G (by decide) rfl | assumption) (by assumption) ?_
        | refine T_iconst (v := (nI 1)) (pc1 := 41) (pc := 40) k_M_ask_40 rfl (by decide) ?_
        | (with_reducible refine T_icmp_neN (tgt := 77) (pc1 := 44) (pc := 41) k_M_ask_41 (by decide) (by decide) (by omega) (by omega) (fun hc => ?_) (fun hc => ?_) <;> first | (exfalso; omega) | skip)
        | refine T_icmp_ne_t (tgt := 77) (pc := 41) k_M_ask_41 rfl (by decide) ?_
        | refine T_icmp_ne_f (tgt := 77) (pc1 := 44) (pc := 41) k_M_ask_41 rfl rfl (by decide) ?_
        | refine T_icmp_ne (tgt := 77) (pc1 := 44) (pc := 41) k_M_ask_41 rfl rfl (fun hc => ?_) (fun hc => ?_)
        | refine T_aload_n (pc1 := 45) (pc := 44) k_M_ask_44 rfl rfl ?_
        | refine T_aload_nN (pc1 := 45) (pc := 44) k_M_ask_44 rfl rfl ?_
        | refine T_getR (pc1 := 48) (pc := 45) k_M_ask_45 rfl f_M_76 rfl (by first | exact ga G (by decide) rfl | assumption) (by first | exact gr G (by decide) rfl | assumption) ?_
        | refine T_iload_n (pc1 := 49) (pc := 48) k_M_ask_48 rfl rfl ?_
        | refine T_ialdN (pc1 := 50) (pc := 49) k_M_ask_49 rfl (by first | exact ga G (by decide) rfl | assumption) (by omega) (by omega) (by first | assumption | (simp (disch := omega) only [pI_eq, pI_row, pI_col, va_up_self, va_up_ne, ne_eq, not_false_eq_true, hTh, h] <;> rfl) | rfl) ?_
        | refine T_iald (pc1 := 50) (pc := 49) k_M_ask_49 rfl (by first | exact ga G (by decide) rfl | assumption) (by assumption) ?_
        | refine T_iload_n (pc1 := 51) (pc := 50) k_M_ask_50 rfl rfl ?_
        | (refine T_cS (As := [_, _]) (d1 := 2) (pc1 := 54) (pc := 51) k_M_ask_51 rfl (by decide) (Nat.le_of_ble_eq_true rfl) rfl o_M_isUnder l_M_137 rfl (c_M_isUnder (by omega) (by omega) (fun hu => ?_) (fun hu => ?_)) <;> try dsimp only [psh])
        | (with_reducible refine T_if_eqN (tgt := 77) (pc1 := 57) (pc := 54) k_M_ask_54 (by decide) (by decide) (by omega) (fun hc => ?_) (fun hc => ?_) <;> first | (exfalso; omega) | skip)
        | refine T_if_eq_t (tgt := 77) (pc := 54) k_M_ask_54 rfl (by decide) ?_
        | refine T_if_eq_f (tgt := 77) (pc1 := 57) (pc := 54) k_M_ask_54 rfl rfl (by decide) ?_
        | refine T_if_eq (tgt := 77) (pc1 := 57) (pc := 54) k_M_ask_54 rfl rfl (fun hc => ?_) (fun hc => ?_)
        | refine T_aload_n (pc1 := 58) (pc := 57) k_M_ask_57 rfl rfl ?_
        | refine T_aload_nN (pc1 := 58) (pc := 57) k_M_ask_57 rfl rfl ?_
        | refine T_getR (pc1 := 61) (pc := 58) k_M_ask_58 rfl f_M_76 rfl (by first | exact ga G (by decide) rfl | assumption) (by first | exact gr G (by decide) rfl | assumption) ?_
        | refine T_iload_n (pc1 := 62) (pc := 61) k_M_ask_61 rfl rfl ?_
        | refine T_ialdN (pc1 := 63) (pc := 62) k_M_ask_62 rfl (by first | exact ga G (by decide) rfl | assumption) (by omega) (by omega) (by first | assumption | (simp (disch := omega) only [pI_eq, pI_row, pI_col, va_up_self, va_up_ne, ne_eq, not_false_eq_true, hTh, h] <;> rfl) | rfl) ?_
        | refine T_iald (pc1 := 63) (pc := 62) k_M_ask_62 rfl (by first | exact ga G (by decide) rfl | assumption) (by assumption) ?_
        | refine T_aload_n (pc1 := 64) (pc := 63) k_M_ask_63 rfl rfl ?_
        | refine T_aload_nN (pc1 := 64) (pc := 63) k_M_ask_63 rfl rfl ?_
        | refine T_getR (pc1 := 67) (pc := 64) k_M_ask_64 rfl f_M_76 rfl (by first | exact ga G (by decide) rfl | assumption) (by first | exact gr G (by decide) rfl | assumption) ?_
        | refine T_iload_n (pc1 := 68) (pc := 67) k_M_ask_67 rfl rfl ?_
        | refine T_iconst (v := (nI 1)) (pc1 := 69) (pc := 68) k_M_ask_68 rfl (by decide) ?_
        | with_reducible refine T_iaddN (pc1 := 70) (pc := 69) k_M_ask_69 (by decide) ?_
        | refine T_iadd (pc1 := 70) (pc := 69) k_M_ask_69 rfl ?_
        | refine T_ialdN (pc1 := 71) (pc := 70) k_M_ask_70 rfl (by first | exact ga G (by decide) rfl | assumption) (by omega) (by omega) (by first | assumption | (simp (disch := omega) only [pI_eq, pI_row, pI_col, va_up_self, va_up_ne, ne_eq, not_false_eq_true, hTh, h] <;> rfl) | rfl) ?_
        | refine T_iald (pc1 := 71) (pc := 70) k_M_ask_70 rfl (by first | exact ga G (by decide) rfl | assumption) (by assumption) ?_
        | (refine T_cS (As := [_, _]) (d1 := 1) (pc1 := 74) (pc := 71) k_M_ask_71 rfl (by decide) (Nat.le_of_ble_eq_true rfl) rfl o_M_worth l_M_152 rfl (c_M_worth (by omega) ?_) <;> try dsimp only [psh])
        | refine T_goto (tgt := 79) (pc := 74) k_M_ask_74 rfl ?_
        | refine T_ldc (v := (-1000000012)) (pc1 := 79) (pc := 77) k_M_ask_77 rfl c_M_155 ?_
        | refine T_retI (pc := 79) k_M_ask_79 rfl (by first | rfl | decide | assumption) ?_)
      all_goals first | contradiction | exact kk _ (by rw [if_neg (by decide), if_neg (fun q => absurd q.1 (by decide))])
  · rw [if_neg hs] at kk
    repeat' (first
      | refine T_iload_n (pc1 := 1) (pc := 0) k_M_ask_0 rfl rfl ?_
      | (refine T_cS (As := [_]) (d1 := 2) (pc1 := 4) (pc := 1) k_M_ask_1 rfl (by decide) (Nat.le_of_ble_eq_true rfl) rfl o_M_isSlot l_M_300 rfl (c_M_isSlot (fun hw => ?_) (fun hw => ?_)) <;> try dsimp only [psh])
      | (with_reducible refine T_if_eqN (tgt := 14) (pc1 := 7) (pc := 4) k_M_ask_4 (by decide) (by decide) (by omega) (fun hc => ?_) (fun hc => ?_) <;> first | (exfalso; omega) | skip)
      | refine T_if_eq_t (tgt := 14) (pc := 4) k_M_ask_4 rfl (by decide) ?_
      | refine T_if_eq_f (tgt := 14) (pc1 := 7) (pc := 4) k_M_ask_4 rfl rfl (by decide) ?_
      | refine T_if_eq (tgt := 14) (pc1 := 7) (pc := 4) k_M_ask_4 rfl rfl (fun hc => ?_) (fun hc => ?_)
      | refine T_iload_n (pc1 := 8) (pc := 7) k_M_ask_7 rfl rfl ?_
      | (refine T_cS (As := [_]) (d1 := 2) (pc1 := 11) (pc := 8) k_M_ask_8 rfl (by decide) (Nat.le_of_ble_eq_true rfl) rfl o_M_isKind l_M_104 rfl (c_M_isKind (fun hw => ?_) (fun hw => ?_)) <;> try dsimp only [psh])
      | (with_reducible refine T_if_neN (tgt := 17) (pc1 := 14) (pc := 11) k_M_ask_11 (by decide) (by decide) (by omega) (fun hc => ?_) (fun hc => ?_) <;> first | (exfalso; omega) | skip)
      | refine T_if_ne_t (tgt := 17) (pc := 11) k_M_ask_11 rfl (by decide) ?_
      | refine T_if_ne_f (tgt := 17) (pc1 := 14) (pc := 11) k_M_ask_11 rfl rfl (by decide) ?_
      | refine T_if_ne (tgt := 17) (pc1 := 14) (pc := 11) k_M_ask_11 rfl rfl (fun hc => ?_) (fun hc => ?_)
      | refine T_ldc (v := (-1000000001)) (pc1 := 16) (pc := 14) k_M_ask_14 rfl c_M_111 ?_
      | refine T_retI (pc := 16) k_M_ask_16 rfl (by first | rfl | decide | assumption) ?_)
    all_goals first | exact kk _ rfl | (exfalso; exact hs ⟨by assumption, by assumption⟩)
theorem c_M_item {Th He : Row} {sl p : Int32} (G : GeoOK g) (hTh : I 118 = Th) (hHe : I 119 = He) (okh : okH Th He) (kk : ∀ r, r = itemA Th He sl p → K (some (.int r)) g I) : Cl 3 M_M_item [.ref 101, .int sl, .int p] g I K := by
  show Rl 3 M_M_item 0 [some (.ref 101), some (.int sl), some (.int p), none] [] g I K
  have e0 : (nI 0).toInt = 0 := rfl
  unfold itemA at kk
  by_cases hs : rg 5 sl
  · rw [if_pos hs] at kk
    obtain ⟨s, hs5, rfl⟩ := rg_of hs (by omega)
    rw [nI_clamp (by omega)] at kk
    rcases okh s hs5 with h | ⟨h, -⟩ | ⟨h, z, hz, hk1⟩ | h
    · rw [h] at kk
      repeat' (first
        | refine T_iload_n (pc1 := 1) (pc := 0) k_M_item_0 rfl rfl ?_
        | (refine T_cS (As := [_]) (d1 := 2) (pc1 := 4) (pc := 1) k_M_item_1 rfl (by decide) (Nat.le_of_ble_eq_true rfl) rfl o_M_isSlot l_M_300 rfl (c_M_isSlot (fun hw => ?_) (fun hw => ?_)) <;> try dsimp only [psh])
        | (with_reducible refine T_if_neN (tgt := 10) (pc1 := 7) (pc := 4) k_M_item_4 (by decide) (by decide) (by omega) (fun hc => ?_) (fun hc => ?_) <;> first | (exfalso; omega) | skip)
        | refine T_if_ne_t (tgt := 10) (pc := 4) k_M_item_4 rfl (by decide) ?_
        | refine T_if_ne_f (tgt := 10) (pc1 := 7) (pc := 4) k_M_item_4 rfl rfl (by decide) ?_
        | refine T_if_ne (tgt := 10) (pc1 := 7) (pc := 4) k_M_item_4 rfl rfl (fun hc => ?_) (fun hc => ?_)
        | refine T_ldc (v := (-1000000001)) (pc1 := 9) (pc := 7) k_M_item_7 rfl c_M_111 ?_
        | refine T_retI (pc := 9) k_M_item_9 rfl (by first | rfl | decide | assumption) ?_
        | refine T_aload_n (pc1 := 11) (pc := 10) k_M_item_10 rfl rfl ?_
        | refine T_aload_nN (pc1 := 11) (pc := 10) k_M_item_10 rfl rfl ?_
        | refine T_getR (pc1 := 14) (pc := 11) k_M_item_11 rfl f_M_73 rfl (by first | exact ga G (by decide) rfl | assumption) (by first | exact gr G (by decide) rfl | assumption) ?_
        | refine T_iload_n (pc1 := 15) (pc := 14) k_M_item_14 rfl rfl ?_
        | refine T_ialdN (pc1 := 16) (pc := 15) k_M_item_15 rfl (by first | exact ga G (by decide) rfl | assumption) (by omega) (by omega) (by first | assumption | (simp (disch := omega) only [pI_eq, pI_row, pI_col, va_up_self, va_up_ne, ne_eq, not_false_eq_true, hTh, h] <;> rfl) | rfl) ?_
        | refine T_iald (pc1 := 16) (pc := 15) k_M_item_15 rfl (by first | exact ga G (by decide) rfl | assumption) (by assumption) ?_
        | (with_reducible refine T_if_neN (tgt := 22) (pc1 := 19) (pc := 16) k_M_item_16 (by decide) (by decide) (by omega) (fun hc => ?_) (fun hc => ?_) <;> first | (exfalso; omega) | skip)
        | refine T_if_ne_t (tgt := 22) (pc := 16) k_M_item_16 rfl (by decide) ?_
        | refine T_if_ne_f (tgt := 22) (pc1 := 19) (pc := 16) k_M_item_16 rfl rfl (by decide) ?_
        | refine T_if_ne (tgt := 22) (pc1 := 19) (pc := 16) k_M_item_16 rfl rfl (fun hc => ?_) (fun hc => ?_)
        | refine T_ldc (v := (-1000000011)) (pc1 := 21) (pc := 19) k_M_item_19 rfl c_M_196 ?_
        | refine T_retI (pc := 21) k_M_item_21 rfl (by first | rfl | decide | assumption) ?_
        | refine T_bipush (v := (nI 25)) (pc1 := 24) (pc := 22) k_M_item_22 rfl (by decide) ?_
        | refine T_iload_n (pc1 := 25) (pc := 24) k_M_item_24 rfl rfl ?_
        | with_reducible refine T_imulN (pc1 := 26) (pc := 25) k_M_item_25 (by decide) ?_
        | refine T_imul (pc1 := 26) (pc := 25) k_M_item_25 rfl ?_
        | refine T_istore_n (pc1 := 27) (pc := 26) k_M_item_26 rfl (Nat.le_of_ble_eq_true rfl) ?_
        | refine T_aload_n (pc1 := 28) (pc := 27) k_M_item_27 rfl rfl ?_
        | refine T_aload_nN (pc1 := 28) (pc := 27) k_M_item_27 rfl rfl ?_
        | refine T_getR (pc1 := 31) (pc := 28) k_M_item_28 rfl f_M_73 rfl (by first | exact ga G (by decide) rfl | assumption) (by first | exact gr G (by decide) rfl | assumption) ?_
        | refine T_iload_n (pc1 := 32) (pc := 31) k_M_item_31 rfl rfl ?_
        | refine T_ialdN (pc1 := 33) (pc := 32) k_M_item_32 rfl (by first | exact ga G (by decide) rfl | assumption) (by omega) (by omega) (by first | assumption | (simp (disch := omega) only [pI_eq, pI_row, pI_col, va_up_self, va_up_ne, ne_eq, not_false_eq_true, hTh, h] <;> rfl) | rfl) ?_
        | refine T_iald (pc1 := 33) (pc := 32) k_M_item_32 rfl (by first | exact ga G (by decide) rfl | assumption) (by assumption) ?_
        | refine T_iconst (v := (nI 2)) (pc1 := 34) (pc := 33) k_M_item_33 rfl (by decide) ?_
        | (with_reducible refine T_icmp_eqN (tgt := 40) (pc1 := 37) (pc := 34) k_M_item_34 (by decide) (by decide) (by omega) (by omega) (fun hc => ?_) (fun hc => ?_) <;> first | (exfalso; omega) | skip)
        | refine T_icmp_eq_t (tgt := 40) (pc := 34) k_M_item_34 rfl (by decide) ?_
        | refine T_icmp_eq_f (tgt := 40) (pc1 := 37) (pc := 34) k_M_item_34 rfl rfl (by decide) ?_
        | refine T_icmp_eq (tgt := 40) (pc1 := 37) (pc := 34) k_M_item_34 rfl rfl (fun hc => ?_) (fun hc => ?_)
        | refine T_ldc (v := (-1000000012)) (pc1 := 39) (pc := 37) k_M_item_37 rfl c_M_155 ?_
        | refine T_retI (pc := 39) k_M_item_39 rfl (by first | rfl | decide | assumption) ?_
        | refine T_iload_n (pc1 := 41) (pc := 40) k_M_item_40 rfl rfl ?_
        | refine T_iconst (v := (nI 0)) (pc1 := 42) (pc := 41) k_M_item_41 rfl (by decide) ?_
        | refine T_aload_n (pc1 := 43) (pc := 42) k_M_item_42 rfl rfl ?_
        | refine T_aload_nN (pc1 := 43) (pc := 42) k_M_item_42 rfl rfl ?_
        | refine T_getR (pc1 := 46) (pc := 43) k_M_item_43 rfl f_M_76 rfl (by first | exact ga G (by decide) rfl | assumption) (by first | exact gr G (by decide) rfl | assumption) ?_
        | refine T_iload_n (pc1 := 47) (pc := 46) k_M_item_46 rfl rfl ?_
        | refine T_ialdN (pc1 := 48) (pc := 47) k_M_item_47 rfl (by first | exact ga G (by decide) rfl | assumption) (by omega) (by omega) (by first | assumption | (simp (disch := omega) only [pI_eq, pI_row, pI_col, va_up_self, va_up_ne, ne_eq, not_false_eq_true, hTh, h] <;> rfl) | rfl) ?_
        | refine T_iald (pc1 := 48) (pc := 47) k_M_item_47 rfl (by first | exact ga G (by decide) rfl | assumption) (by assumption) ?_
        | refine T_iconst (v := (nI 1)) (pc1 := 49) (pc := 48) k_M_item_48 rfl (by decide) ?_
        | with_reducible refine T_isubN (pc1 := 50) (pc := 49) k_M_item_49 (by decide) (by omega) ?_
        | refine T_isub (pc1 := 50) (pc := 49) k_M_item_49 rfl ?_
        | (refine T_cS (As := [_, _, _]) (d1 := 1) (pc1 := 53) (pc := 50) k_M_item_50 rfl (by decide) (Nat.le_of_ble_eq_true rfl) rfl o_M_within l_M_95 rfl (c_M_within (fun hw => ?_) (fun hw => ?_)) <;> try dsimp only [psh])
        | (with_reducible refine T_if_neN (tgt := 60) (pc1 := 56) (pc := 53) k_M_item_53 (by decide) (by decide) (by omega) (fun hc => ?_) (fun hc => ?_) <;> first | (exfalso; omega) | skip)
        | refine T_if_ne_t (tgt := 60) (pc := 53) k_M_item_53 rfl (by decide) ?_
        | refine T_if_ne_f (tgt := 60) (pc1 := 56) (pc := 53) k_M_item_53 rfl rfl (by decide) ?_
        | refine T_if_ne (tgt := 60) (pc1 := 56) (pc := 53) k_M_item_53 rfl rfl (fun hc => ?_) (fun hc => ?_)
        | refine T_ldcw (v := (-1000000013)) (pc1 := 59) (pc := 56) k_M_item_56 rfl c_M_297 ?_
        | refine T_retI (pc := 59) k_M_item_59 rfl (by first | rfl | decide | assumption) ?_
        | refine T_aload_n (pc1 := 61) (pc := 60) k_M_item_60 rfl rfl ?_
        | refine T_aload_nN (pc1 := 61) (pc := 60) k_M_item_60 rfl rfl ?_
        | refine T_getR (pc1 := 64) (pc := 61) k_M_item_61 rfl f_M_76 rfl (by first | exact ga G (by decide) rfl | assumption) (by first | exact gr G (by decide) rfl | assumption) ?_
        | refine T_iload_n (pc1 := 65) (pc := 64) k_M_item_64 rfl rfl ?_
        | refine T_iconst (v := (nI 1)) (pc1 := 66) (pc := 65) k_M_item_65 rfl (by decide) ?_
        | with_reducible refine T_iaddN (pc1 := 67) (pc := 66) k_M_item_66 (by decide) ?_
        | refine T_iadd (pc1 := 67) (pc := 66) k_M_item_66 rfl ?_
        | refine T_iload_n (pc1 := 68) (pc := 67) k_M_item_67 rfl rfl ?_
        | with_reducible refine T_iaddN (pc1 := 69) (pc := 68) k_M_item_68 (by decide) ?_
        | refine T_iadd (pc1 := 69) (pc := 68) k_M_item_68 rfl ?_
        | refine T_ialdN (pc1 := 70) (pc := 69) k_M_item_69 rfl (by first | exact ga G (by decide) rfl | assumption) (by omega) (by omega) (by first | assumption | (simp (disch := omega) only [pI_eq, pI_row, pI_col, va_up_self, va_up_ne, ne_eq, not_false_eq_true, hTh, h] <;> rfl) | rfl) ?_
        | refine T_iald (pc1 := 70) (pc := 69) k_M_item_69 rfl (by first | exact ga G (by decide) rfl | assumption) (by assumption) ?_
        | refine T_ldc (v := (-1000000005)) (pc1 := 72) (pc := 70) k_M_item_70 rfl c_M_103 ?_
        | (with_reducible refine T_icmp_neN (tgt := 80) (pc1 := 75) (pc := 72) k_M_item_72 (by decide) (by decide) (by omega) (by omega) (fun hc => ?_) (fun hc => ?_) <;> first | (exfalso; omega) | skip)
        | refine T_icmp_ne_t (tgt := 80) (pc := 72) k_M_item_72 rfl (by decide) ?_
        | refine T_icmp_ne_f (tgt := 80) (pc1 := 75) (pc := 72) k_M_item_72 rfl rfl (by decide) ?_
        | refine T_icmp_ne (tgt := 80) (pc1 := 75) (pc := 72) k_M_item_72 rfl rfl (fun hc => ?_) (fun hc => ?_)
        | refine T_ldc (v := (-1000000012)) (pc1 := 77) (pc := 75) k_M_item_75 rfl c_M_155 ?_
        | refine T_goto (tgt := 90) (pc := 77) k_M_item_77 rfl ?_
        | refine T_aload_n (pc1 := 81) (pc := 80) k_M_item_80 rfl rfl ?_
        | refine T_aload_nN (pc1 := 81) (pc := 80) k_M_item_80 rfl rfl ?_
        | refine T_getR (pc1 := 84) (pc := 81) k_M_item_81 rfl f_M_76 rfl (by first | exact ga G (by decide) rfl | assumption) (by first | exact gr G (by decide) rfl | assumption) ?_
        | refine T_iload_n (pc1 := 85) (pc := 84) k_M_item_84 rfl rfl ?_
        | refine T_iconst (v := (nI 1)) (pc1 := 86) (pc := 85) k_M_item_85 rfl (by decide) ?_
        | with_reducible refine T_iaddN (pc1 := 87) (pc := 86) k_M_item_86 (by decide) ?_
        | refine T_iadd (pc1 := 87) (pc := 86) k_M_item_86 rfl ?_
        | refine T_iload_n (pc1 := 88) (pc := 87) k_M_item_87 rfl rfl ?_
        | with_reducible refine T_iaddN (pc1 := 89) (pc := 88) k_M_item_88 (by decide) ?_
        | refine T_iadd (pc1 := 89) (pc := 88) k_M_item_88 rfl ?_
        | refine T_ialdN (pc1 := 90) (pc := 89) k_M_item_89 rfl (by first | exact ga G (by decide) rfl | assumption) (by omega) (by omega) (by first | assumption | (simp (disch := omega) only [pI_eq, pI_row, pI_col, va_up_self, va_up_ne, ne_eq, not_false_eq_true, hTh, h] <;> rfl) | rfl) ?_
        | refine T_iald (pc1 := 90) (pc := 89) k_M_item_89 rfl (by first | exact ga G (by decide) rfl | assumption) (by assumption) ?_
        | refine T_retI (pc := 90) k_M_item_90 rfl (by first | rfl | decide | assumption) ?_)
      all_goals first | exact kk _ rfl | contradiction
    · rw [h] at kk
      repeat' (first
        | refine T_iload_n (pc1 := 1) (pc := 0) k_M_item_0 rfl rfl ?_
        | (refine T_cS (As := [_]) (d1 := 2) (pc1 := 4) (pc := 1) k_M_item_1 rfl (by decide) (Nat.le_of_ble_eq_true rfl) rfl o_M_isSlot l_M_300 rfl (c_M_isSlot (fun hw => ?_) (fun hw => ?_)) <;> try dsimp only [psh])
        | (with_reducible refine T_if_neN (tgt := 10) (pc1 := 7) (pc := 4) k_M_item_4 (by decide) (by decide) (by omega) (fun hc => ?_) (fun hc => ?_) <;> first | (exfalso; omega) | skip)
        | refine T_if_ne_t (tgt := 10) (pc := 4) k_M_item_4 rfl (by decide) ?_
        | refine T_if_ne_f (tgt := 10) (pc1 := 7) (pc := 4) k_M_item_4 rfl rfl (by decide) ?_
        | refine T_if_ne (tgt := 10) (pc1 := 7) (pc := 4) k_M_item_4 rfl rfl (fun hc => ?_) (fun hc => ?_)
        | refine T_ldc (v := (-1000000001)) (pc1 := 9) (pc := 7) k_M_item_7 rfl c_M_111 ?_
        | refine T_retI (pc := 9) k_M_item_9 rfl (by first | rfl | decide | assumption) ?_
        | refine T_aload_n (pc1 := 11) (pc := 10) k_M_item_10 rfl rfl ?_
        | refine T_aload_nN (pc1 := 11) (pc := 10) k_M_item_10 rfl rfl ?_
        | refine T_getR (pc1 := 14) (pc := 11) k_M_item_11 rfl f_M_73 rfl (by first | exact ga G (by decide) rfl | assumption) (by first | exact gr G (by decide) rfl | assumption) ?_
        | refine T_iload_n (pc1 := 15) (pc := 14) k_M_item_14 rfl rfl ?_
        | refine T_ialdN (pc1 := 16) (pc := 15) k_M_item_15 rfl (by first | exact ga G (by decide) rfl | assumption) (by omega) (by omega) (by first | assumption | (simp (disch := omega) only [pI_eq, pI_row, pI_col, va_up_self, va_up_ne, ne_eq, not_false_eq_true, hTh, h] <;> rfl) | rfl) ?_
        | refine T_iald (pc1 := 16) (pc := 15) k_M_item_15 rfl (by first | exact ga G (by decide) rfl | assumption) (by assumption) ?_
        | (with_reducible refine T_if_neN (tgt := 22) (pc1 := 19) (pc := 16) k_M_item_16 (by decide) (by decide) (by omega) (fun hc => ?_) (fun hc => ?_) <;> first | (exfalso; omega) | skip)
        | refine T_if_ne_t (tgt := 22) (pc := 16) k_M_item_16 rfl (by decide) ?_
        | refine T_if_ne_f (tgt := 22) (pc1 := 19) (pc := 16) k_M_item_16 rfl rfl (by decide) ?_
        | refine T_if_ne (tgt := 22) (pc1 := 19) (pc := 16) k_M_item_16 rfl rfl (fun hc => ?_) (fun hc => ?_)
        | refine T_ldc (v := (-1000000011)) (pc1 := 21) (pc := 19) k_M_item_19 rfl c_M_196 ?_
        | refine T_retI (pc := 21) k_M_item_21 rfl (by first | rfl | decide | assumption) ?_
        | refine T_bipush (v := (nI 25)) (pc1 := 24) (pc := 22) k_M_item_22 rfl (by decide) ?_
        | refine T_iload_n (pc1 := 25) (pc := 24) k_M_item_24 rfl rfl ?_
        | with_reducible refine T_imulN (pc1 := 26) (pc := 25) k_M_item_25 (by decide) ?_
        | refine T_imul (pc1 := 26) (pc := 25) k_M_item_25 rfl ?_
        | refine T_istore_n (pc1 := 27) (pc := 26) k_M_item_26 rfl (Nat.le_of_ble_eq_true rfl) ?_
        | refine T_aload_n (pc1 := 28) (pc := 27) k_M_item_27 rfl rfl ?_
        | refine T_aload_nN (pc1 := 28) (pc := 27) k_M_item_27 rfl rfl ?_
        | refine T_getR (pc1 := 31) (pc := 28) k_M_item_28 rfl f_M_73 rfl (by first | exact ga G (by decide) rfl | assumption) (by first | exact gr G (by decide) rfl | assumption) ?_
        | refine T_iload_n (pc1 := 32) (pc := 31) k_M_item_31 rfl rfl ?_
        | refine T_ialdN (pc1 := 33) (pc := 32) k_M_item_32 rfl (by first | exact ga G (by decide) rfl | assumption) (by omega) (by omega) (by first | assumption | (simp (disch := omega) only [pI_eq, pI_row, pI_col, va_up_self, va_up_ne, ne_eq, not_false_eq_true, hTh, h] <;> rfl) | rfl) ?_
        | refine T_iald (pc1 := 33) (pc := 32) k_M_item_32 rfl (by first | exact ga G (by decide) rfl | assumption) (by assumption) ?_
        | refine T_iconst (v := (nI 2)) (pc1 := 34) (pc := 33) k_M_item_33 rfl (by decide) ?_
        | (with_reducible refine T_icmp_eqN (tgt := 40) (pc1 := 37) (pc := 34) k_M_item_34 (by decide) (by decide) (by omega) (by omega) (fun hc => ?_) (fun hc => ?_) <;> first | (exfalso; omega) | skip)
        | refine T_icmp_eq_t (tgt := 40) (pc := 34) k_M_item_34 rfl (by decide) ?_
        | refine T_icmp_eq_f (tgt := 40) (pc1 := 37) (pc := 34) k_M_item_34 rfl rfl (by decide) ?_
        | refine T_icmp_eq (tgt := 40) (pc1 := 37) (pc := 34) k_M_item_34 rfl rfl (fun hc => ?_) (fun hc => ?_)
        | refine T_ldc (v := (-1000000012)) (pc1 := 39) (pc := 37) k_M_item_37 rfl c_M_155 ?_
        | refine T_retI (pc := 39) k_M_item_39 rfl (by first | rfl | decide | assumption) ?_
        | refine T_iload_n (pc1 := 41) (pc := 40) k_M_item_40 rfl rfl ?_
        | refine T_iconst (v := (nI 0)) (pc1 := 42) (pc := 41) k_M_item_41 rfl (by decide) ?_
        | refine T_aload_n (pc1 := 43) (pc := 42) k_M_item_42 rfl rfl ?_
        | refine T_aload_nN (pc1 := 43) (pc := 42) k_M_item_42 rfl rfl ?_
        | refine T_getR (pc1 := 46) (pc := 43) k_M_item_43 rfl f_M_76 rfl (by first | exact ga G (by decide) rfl | assumption) (by first | exact gr G (by decide) rfl | assumption) ?_
        | refine T_iload_n (pc1 := 47) (pc := 46) k_M_item_46 rfl rfl ?_
        | refine T_ialdN (pc1 := 48) (pc := 47) k_M_item_47 rfl (by first | exact ga G (by decide) rfl | assumption) (by omega) (by omega) (by first | assumption | (simp (disch := omega) only [pI_eq, pI_row, pI_col, va_up_self, va_up_ne, ne_eq, not_false_eq_true, hTh, h] <;> rfl) | rfl) ?_
        | refine T_iald (pc1 := 48) (pc := 47) k_M_item_47 rfl (by first | exact ga G (by decide) rfl | assumption) (by assumption) ?_
        | refine T_iconst (v := (nI 1)) (pc1 := 49) (pc := 48) k_M_item_48 rfl (by decide) ?_
        | with_reducible refine T_isubN (pc1 := 50) (pc := 49) k_M_item_49 (by decide) (by omega) ?_
        | refine T_isub (pc1 := 50) (pc := 49) k_M_item_49 rfl ?_
        | (refine T_cS (As := [_, _, _]) (d1 := 1) (pc1 := 53) (pc := 50) k_M_item_50 rfl (by decide) (Nat.le_of_ble_eq_true rfl) rfl o_M_within l_M_95 rfl (c_M_within (fun hw => ?_) (fun hw => ?_)) <;> try dsimp only [psh])
        | (with_reducible refine T_if_neN (tgt := 60) (pc1 := 56) (pc := 53) k_M_item_53 (by decide) (by decide) (by omega) (fun hc => ?_) (fun hc => ?_) <;> first | (exfalso; omega) | skip)
        | refine T_if_ne_t (tgt := 60) (pc := 53) k_M_item_53 rfl (by decide) ?_
        | refine T_if_ne_f (tgt := 60) (pc1 := 56) (pc := 53) k_M_item_53 rfl rfl (by decide) ?_
        | refine T_if_ne (tgt := 60) (pc1 := 56) (pc := 53) k_M_item_53 rfl rfl (fun hc => ?_) (fun hc => ?_)
        | refine T_ldcw (v := (-1000000013)) (pc1 := 59) (pc := 56) k_M_item_56 rfl c_M_297 ?_
        | refine T_retI (pc := 59) k_M_item_59 rfl (by first | rfl | decide | assumption) ?_
        | refine T_aload_n (pc1 := 61) (pc := 60) k_M_item_60 rfl rfl ?_
        | refine T_aload_nN (pc1 := 61) (pc := 60) k_M_item_60 rfl rfl ?_
        | refine T_getR (pc1 := 64) (pc := 61) k_M_item_61 rfl f_M_76 rfl (by first | exact ga G (by decide) rfl | assumption) (by first | exact gr G (by decide) rfl | assumption) ?_
        | refine T_iload_n (pc1 := 65) (pc := 64) k_M_item_64 rfl rfl ?_
        | refine T_iconst (v := (nI 1)) (pc1 := 66) (pc := 65) k_M_item_65 rfl (by decide) ?_
        | with_reducible refine T_iaddN (pc1 := 67) (pc := 66) k_M_item_66 (by decide) ?_
        | refine T_iadd (pc1 := 67) (pc := 66) k_M_item_66 rfl ?_
        | refine T_iload_n (pc1 := 68) (pc := 67) k_M_item_67 rfl rfl ?_
        | with_reducible refine T_iaddN (pc1 := 69) (pc := 68) k_M_item_68 (by decide) ?_
        | refine T_iadd (pc1 := 69) (pc := 68) k_M_item_68 rfl ?_
        | refine T_ialdN (pc1 := 70) (pc := 69) k_M_item_69 rfl (by first | exact ga G (by decide) rfl | assumption) (by omega) (by omega) (by first | assumption | (simp (disch := omega) only [pI_eq, pI_row, pI_col, va_up_self, va_up_ne, ne_eq, not_false_eq_true, hTh, h] <;> rfl) | rfl) ?_
        | refine T_iald (pc1 := 70) (pc := 69) k_M_item_69 rfl (by first | exact ga G (by decide) rfl | assumption) (by assumption) ?_
        | refine T_ldc (v := (-1000000005)) (pc1 := 72) (pc := 70) k_M_item_70 rfl c_M_103 ?_
        | (with_reducible refine T_icmp_neN (tgt := 80) (pc1 := 75) (pc := 72) k_M_item_72 (by decide) (by decide) (by omega) (by omega) (fun hc => ?_) (fun hc => ?_) <;> first | (exfalso; omega) | skip)
        | refine T_icmp_ne_t (tgt := 80) (pc := 72) k_M_item_72 rfl (by decide) ?_
        | refine T_icmp_ne_f (tgt := 80) (pc1 := 75) (pc := 72) k_M_item_72 rfl rfl (by decide) ?_
        | refine T_icmp_ne (tgt := 80) (pc1 := 75) (pc := 72) k_M_item_72 rfl rfl (fun hc => ?_) (fun hc => ?_)
        | refine T_ldc (v := (-1000000012)) (pc1 := 77) (pc := 75) k_M_item_75 rfl c_M_155 ?_
        | refine T_goto (tgt := 90) (pc := 77) k_M_item_77 rfl ?_
        | refine T_aload_n (pc1 := 81) (pc := 80) k_M_item_80 rfl rfl ?_
        | refine T_aload_nN (pc1 := 81) (pc := 80) k_M_item_80 rfl rfl ?_
        | refine T_getR (pc1 := 84) (pc := 81) k_M_item_81 rfl f_M_76 rfl (by first | exact ga G (by decide) rfl | assumption) (by first | exact gr G (by decide) rfl | assumption) ?_
        | refine T_iload_n (pc1 := 85) (pc := 84) k_M_item_84 rfl rfl ?_
        | refine T_iconst (v := (nI 1)) (pc1 := 86) (pc := 85) k_M_item_85 rfl (by decide) ?_
        | with_reducible refine T_iaddN (pc1 := 87) (pc := 86) k_M_item_86 (by decide) ?_
        | refine T_iadd (pc1 := 87) (pc := 86) k_M_item_86 rfl ?_
        | refine T_iload_n (pc1 := 88) (pc := 87) k_M_item_87 rfl rfl ?_
        | with_reducible refine T_iaddN (pc1 := 89) (pc := 88) k_M_item_88 (by decide) ?_
        | refine T_iadd (pc1 := 89) (pc := 88) k_M_item_88 rfl ?_
        | refine T_ialdN (pc1 := 90) (pc := 89) k_M_item_89 rfl (by first | exact ga G (by decide) rfl | assumption) (by omega) (by omega) (by first | assumption | (simp (disch := omega) only [pI_eq, pI_row, pI_col, va_up_self, va_up_ne, ne_eq, not_false_eq_true, hTh, h] <;> rfl) | rfl) ?_
        | refine T_iald (pc1 := 90) (pc := 89) k_M_item_89 rfl (by first | exact ga G (by decide) rfl | assumption) (by assumption) ?_
        | refine T_retI (pc := 90) k_M_item_90 rfl (by first | rfl | decide | assumption) ?_)
      all_goals first | contradiction | exact kk _ rfl
    · rw [h, hk1, nI_clamp (by omega)] at kk
      have es := sub1_toInt (n := z) (by omega)
      by_cases hp : rg z p
      · obtain ⟨x, hx, rfl⟩ := rg_of hp (by omega)
        rw [if_neg (by decide), if_pos rfl, if_pos hp, nI_clamp (by omega)] at kk
        have c1 := hp.1
        have c2 := hp.2
        have e : I 119 (25 * s + 1 + x) = He (25 * s + 1 + x) := by rw [hHe]
        repeat' (first
          | refine T_iload_n (pc1 := 1) (pc := 0) k_M_item_0 rfl rfl ?_
          | (refine T_cS (As := [_]) (d1 := 2) (pc1 := 4) (pc := 1) k_M_item_1 rfl (by decide) (Nat.le_of_ble_eq_true rfl) rfl o_M_isSlot l_M_300 rfl (c_M_isSlot (fun hw => ?_) (fun hw => ?_)) <;> try dsimp only [psh])
          | (with_reducible refine T_if_neN (tgt := 10) (pc1 := 7) (pc := 4) k_M_item_4 (by decide) (by decide) (by omega) (fun hc => ?_) (fun hc => ?_) <;> first | (exfalso; omega) | skip)
          | refine T_if_ne_t (tgt := 10) (pc := 4) k_M_item_4 rfl (by decide) ?_
          | refine T_if_ne_f (tgt := 10) (pc1 := 7) (pc := 4) k_M_item_4 rfl rfl (by decide) ?_
          | refine T_if_ne (tgt := 10) (pc1 := 7) (pc := 4) k_M_item_4 rfl rfl (fun hc => ?_) (fun hc => ?_)
          | refine T_ldc (v := (-1000000001)) (pc1 := 9) (pc := 7) k_M_item_7 rfl c_M_111 ?_
          | refine T_retI (pc := 9) k_M_item_9 rfl (by first | rfl | decide | assumption) ?_
          | refine T_aload_n (pc1 := 11) (pc := 10) k_M_item_10 rfl rfl ?_
          | refine T_aload_nN (pc1 := 11) (pc := 10) k_M_item_10 rfl rfl ?_
          | refine T_getR (pc1 := 14) (pc := 11) k_M_item_11 rfl f_M_73 rfl (by first | exact ga G (by decide) rfl | assumption) (by first | exact gr G (by decide) rfl | assumption) ?_
          | refine T_iload_n (pc1 := 15) (pc := 14) k_M_item_14 rfl rfl ?_
          | refine T_ialdN (pc1 := 16) (pc := 15) k_M_item_15 rfl (by first | exact ga G (by decide) rfl | assumption) (by omega) (by omega) (by first | assumption | (simp (disch := omega) only [pI_eq, pI_row, pI_col, va_up_self, va_up_ne, ne_eq, not_false_eq_true, hTh, hHe, h, hk1] <;> rfl) | rfl) ?_
          | refine T_iald (pc1 := 16) (pc := 15) k_M_item_15 rfl (by first | exact ga G (by decide) rfl | assumption) (by assumption) ?_
          | (with_reducible refine T_if_neN (tgt := 22) (pc1 := 19) (pc := 16) k_M_item_16 (by decide) (by decide) (by omega) (fun hc => ?_) (fun hc => ?_) <;> first | (exfalso; omega) | skip)
          | refine T_if_ne_t (tgt := 22) (pc := 16) k_M_item_16 rfl (by decide) ?_
          | refine T_if_ne_f (tgt := 22) (pc1 := 19) (pc := 16) k_M_item_16 rfl rfl (by decide) ?_
          | refine T_if_ne (tgt := 22) (pc1 := 19) (pc := 16) k_M_item_16 rfl rfl (fun hc => ?_) (fun hc => ?_)
          | refine T_ldc (v := (-1000000011)) (pc1 := 21) (pc := 19) k_M_item_19 rfl c_M_196 ?_
          | refine T_retI (pc := 21) k_M_item_21 rfl (by first | rfl | decide | assumption) ?_
          | refine T_bipush (v := (nI 25)) (pc1 := 24) (pc := 22) k_M_item_22 rfl (by decide) ?_
          | refine T_iload_n (pc1 := 25) (pc := 24) k_M_item_24 rfl rfl ?_
          | with_reducible refine T_imulN (pc1 := 26) (pc := 25) k_M_item_25 (by decide) ?_
          | refine T_imul (pc1 := 26) (pc := 25) k_M_item_25 rfl ?_
          | refine T_istore_n (pc1 := 27) (pc := 26) k_M_item_26 rfl (Nat.le_of_ble_eq_true rfl) ?_
          | refine T_aload_n (pc1 := 28) (pc := 27) k_M_item_27 rfl rfl ?_
          | refine T_aload_nN (pc1 := 28) (pc := 27) k_M_item_27 rfl rfl ?_
          | refine T_getR (pc1 := 31) (pc := 28) k_M_item_28 rfl f_M_73 rfl (by first | exact ga G (by decide) rfl | assumption) (by first | exact gr G (by decide) rfl | assumption) ?_
          | refine T_iload_n (pc1 := 32) (pc := 31) k_M_item_31 rfl rfl ?_
          | refine T_ialdN (pc1 := 33) (pc := 32) k_M_item_32 rfl (by first | exact ga G (by decide) rfl | assumption) (by omega) (by omega) (by first | assumption | (simp (disch := omega) only [pI_eq, pI_row, pI_col, va_up_self, va_up_ne, ne_eq, not_false_eq_true, hTh, hHe, h, hk1] <;> rfl) | rfl) ?_
          | refine T_iald (pc1 := 33) (pc := 32) k_M_item_32 rfl (by first | exact ga G (by decide) rfl | assumption) (by assumption) ?_
          | refine T_iconst (v := (nI 2)) (pc1 := 34) (pc := 33) k_M_item_33 rfl (by decide) ?_
          | (with_reducible refine T_icmp_eqN (tgt := 40) (pc1 := 37) (pc := 34) k_M_item_34 (by decide) (by decide) (by omega) (by omega) (fun hc => ?_) (fun hc => ?_) <;> first | (exfalso; omega) | skip)
          | refine T_icmp_eq_t (tgt := 40) (pc := 34) k_M_item_34 rfl (by decide) ?_
          | refine T_icmp_eq_f (tgt := 40) (pc1 := 37) (pc := 34) k_M_item_34 rfl rfl (by decide) ?_
          | refine T_icmp_eq (tgt := 40) (pc1 := 37) (pc := 34) k_M_item_34 rfl rfl (fun hc => ?_) (fun hc => ?_)
          | refine T_ldc (v := (-1000000012)) (pc1 := 39) (pc := 37) k_M_item_37 rfl c_M_155 ?_
          | refine T_retI (pc := 39) k_M_item_39 rfl (by first | rfl | decide | assumption) ?_
          | refine T_iload_n (pc1 := 41) (pc := 40) k_M_item_40 rfl rfl ?_
          | refine T_iconst (v := (nI 0)) (pc1 := 42) (pc := 41) k_M_item_41 rfl (by decide) ?_
          | refine T_aload_n (pc1 := 43) (pc := 42) k_M_item_42 rfl rfl ?_
          | refine T_aload_nN (pc1 := 43) (pc := 42) k_M_item_42 rfl rfl ?_
          | refine T_getR (pc1 := 46) (pc := 43) k_M_item_43 rfl f_M_76 rfl (by first | exact ga G (by decide) rfl | assumption) (by first | exact gr G (by decide) rfl | assumption) ?_
          | refine T_iload_n (pc1 := 47) (pc := 46) k_M_item_46 rfl rfl ?_
          | refine T_ialdN (pc1 := 48) (pc := 47) k_M_item_47 rfl (by first | exact ga G (by decide) rfl | assumption) (by omega) (by omega) (by first | assumption | (simp (disch := omega) only [pI_eq, pI_row, pI_col, va_up_self, va_up_ne, ne_eq, not_false_eq_true, hTh, hHe, h, hk1] <;> rfl) | rfl) ?_
          | refine T_iald (pc1 := 48) (pc := 47) k_M_item_47 rfl (by first | exact ga G (by decide) rfl | assumption) (by assumption) ?_
          | refine T_iconst (v := (nI 1)) (pc1 := 49) (pc := 48) k_M_item_48 rfl (by decide) ?_
          | refine T_isub (pc1 := 50) (pc := 49) k_M_item_49 rfl ?_
          | (refine T_cS (As := [_, _, _]) (d1 := 1) (pc1 := 53) (pc := 50) k_M_item_50 rfl (by decide) (Nat.le_of_ble_eq_true rfl) rfl o_M_within l_M_95 rfl (c_M_within (fun hw => ?_) (fun hw => ?_)) <;> try dsimp only [psh])
          | (with_reducible refine T_if_neN (tgt := 60) (pc1 := 56) (pc := 53) k_M_item_53 (by decide) (by decide) (by omega) (fun hc => ?_) (fun hc => ?_) <;> first | (exfalso; omega) | skip)
          | refine T_if_ne_t (tgt := 60) (pc := 53) k_M_item_53 rfl (by decide) ?_
          | refine T_if_ne_f (tgt := 60) (pc1 := 56) (pc := 53) k_M_item_53 rfl rfl (by decide) ?_
          | refine T_if_ne (tgt := 60) (pc1 := 56) (pc := 53) k_M_item_53 rfl rfl (fun hc => ?_) (fun hc => ?_)
          | refine T_ldcw (v := (-1000000013)) (pc1 := 59) (pc := 56) k_M_item_56 rfl c_M_297 ?_
          | refine T_retI (pc := 59) k_M_item_59 rfl (by first | rfl | decide | assumption) ?_
          | refine T_aload_n (pc1 := 61) (pc := 60) k_M_item_60 rfl rfl ?_
          | refine T_aload_nN (pc1 := 61) (pc := 60) k_M_item_60 rfl rfl ?_
          | refine T_getR (pc1 := 64) (pc := 61) k_M_item_61 rfl f_M_76 rfl (by first | exact ga G (by decide) rfl | assumption) (by first | exact gr G (by decide) rfl | assumption) ?_
          | refine T_iload_n (pc1 := 65) (pc := 64) k_M_item_64 rfl rfl ?_
          | refine T_iconst (v := (nI 1)) (pc1 := 66) (pc := 65) k_M_item_65 rfl (by decide) ?_
          | with_reducible refine T_iaddN (pc1 := 67) (pc := 66) k_M_item_66 (by decide) ?_
          | refine T_iadd (pc1 := 67) (pc := 66) k_M_item_66 rfl ?_
          | refine T_iload_n (pc1 := 68) (pc := 67) k_M_item_67 rfl rfl ?_
          | with_reducible refine T_iaddN (pc1 := 69) (pc := 68) k_M_item_68 (by decide) ?_
          | refine T_iadd (pc1 := 69) (pc := 68) k_M_item_68 rfl ?_
          | refine T_ialdN (pc1 := 70) (pc := 69) k_M_item_69 rfl (by first | exact ga G (by decide) rfl | assumption) (by omega) (by omega) (by first | assumption | (simp (disch := omega) only [pI_eq, pI_row, pI_col, va_up_self, va_up_ne, ne_eq, not_false_eq_true, hTh, hHe, h, hk1] <;> rfl) | rfl) ?_
          | refine T_iald (pc1 := 70) (pc := 69) k_M_item_69 rfl (by first | exact ga G (by decide) rfl | assumption) (by assumption) ?_
          | refine T_ldc (v := (-1000000005)) (pc1 := 72) (pc := 70) k_M_item_70 rfl c_M_103 ?_
          | (with_reducible refine T_icmp_neN (tgt := 80) (pc1 := 75) (pc := 72) k_M_item_72 (by decide) (by decide) (by omega) (by omega) (fun hc => ?_) (fun hc => ?_) <;> first | (exfalso; omega) | skip)
          | refine T_icmp_ne_t (tgt := 80) (pc := 72) k_M_item_72 rfl (by decide) ?_
          | refine T_icmp_ne_f (tgt := 80) (pc1 := 75) (pc := 72) k_M_item_72 rfl rfl (by decide) ?_
          | refine T_icmp_ne (tgt := 80) (pc1 := 75) (pc := 72) k_M_item_72 rfl rfl (fun hc => ?_) (fun hc => ?_)
          | refine T_ldc (v := (-1000000012)) (pc1 := 77) (pc := 75) k_M_item_75 rfl c_M_155 ?_
          | refine T_goto (tgt := 90) (pc := 77) k_M_item_77 rfl ?_
          | refine T_aload_n (pc1 := 81) (pc := 80) k_M_item_80 rfl rfl ?_
          | refine T_aload_nN (pc1 := 81) (pc := 80) k_M_item_80 rfl rfl ?_
          | refine T_getR (pc1 := 84) (pc := 81) k_M_item_81 rfl f_M_76 rfl (by first | exact ga G (by decide) rfl | assumption) (by first | exact gr G (by decide) rfl | assumption) ?_
          | refine T_iload_n (pc1 := 85) (pc := 84) k_M_item_84 rfl rfl ?_
          | refine T_iconst (v := (nI 1)) (pc1 := 86) (pc := 85) k_M_item_85 rfl (by decide) ?_
          | with_reducible refine T_iaddN (pc1 := 87) (pc := 86) k_M_item_86 (by decide) ?_
          | refine T_iadd (pc1 := 87) (pc := 86) k_M_item_86 rfl ?_
          | refine T_iload_n (pc1 := 88) (pc := 87) k_M_item_87 rfl rfl ?_
          | with_reducible refine T_iaddN (pc1 := 89) (pc := 88) k_M_item_88 (by decide) ?_
          | refine T_iadd (pc1 := 89) (pc := 88) k_M_item_88 rfl ?_
          | refine T_ialdN (pc1 := 90) (pc := 89) k_M_item_89 rfl (by first | exact ga G (by decide) rfl | assumption) (by omega) (by omega) (by first | assumption | (simp (disch := omega) only [pI_eq, pI_row, pI_col, va_up_self, va_up_ne, ne_eq, not_false_eq_true, hTh, hHe, h, hk1] <;> rfl) | rfl) ?_
          | refine T_iald (pc1 := 90) (pc := 89) k_M_item_89 rfl (by first | exact ga G (by decide) rfl | assumption) (by assumption) ?_
          | refine T_retI (pc := 90) k_M_item_90 rfl (by first | rfl | decide | assumption) ?_)
        all_goals first | contradiction | (exfalso; apply hw; constructor <;> omega) | exact kk _ (by rw [if_pos (Decidable.not_not.mp (by assumption))]) | exact kk _ (by rw [if_neg (by assumption)])
      · rw [if_neg (by decide), if_pos rfl, if_neg hp] at kk
        repeat' (first
          | refine T_iload_n (pc1 := 1) (pc := 0) k_M_item_0 rfl rfl ?_
          | (refine T_cS (As := [_]) (d1 := 2) (pc1 := 4) (pc := 1) k_M_item_1 rfl (by decide) (Nat.le_of_ble_eq_true rfl) rfl o_M_isSlot l_M_300 rfl (c_M_isSlot (fun hw => ?_) (fun hw => ?_)) <;> try dsimp only [psh])
          | (with_reducible refine T_if_neN (tgt := 10) (pc1 := 7) (pc := 4) k_M_item_4 (by decide) (by decide) (by omega) (fun hc => ?_) (fun hc => ?_) <;> first | (exfalso; omega) | skip)
          | refine T_if_ne_t (tgt := 10) (pc := 4) k_M_item_4 rfl (by decide) ?_
          | refine T_if_ne_f (tgt := 10) (pc1 := 7) (pc := 4) k_M_item_4 rfl rfl (by decide) ?_
          | refine T_if_ne (tgt := 10) (pc1 := 7) (pc := 4) k_M_item_4 rfl rfl (fun hc => ?_) (fun hc => ?_)
          | refine T_ldc (v := (-1000000001)) (pc1 := 9) (pc := 7) k_M_item_7 rfl c_M_111 ?_
          | refine T_retI (pc := 9) k_M_item_9 rfl (by first | rfl | decide | assumption) ?_
          | refine T_aload_n (pc1 := 11) (pc := 10) k_M_item_10 rfl rfl ?_
          | refine T_aload_nN (pc1 := 11) (pc := 10) k_M_item_10 rfl rfl ?_
          | refine T_getR (pc1 := 14) (pc := 11) k_M_item_11 rfl f_M_73 rfl (by first | exact ga G (by decide) rfl | assumption) (by first | exact gr G (by decide) rfl | assumption) ?_
          | refine T_iload_n (pc1 := 15) (pc := 14) k_M_item_14 rfl rfl ?_
          | refine T_ialdN (pc1 := 16) (pc := 15) k_M_item_15 rfl (by first | exact ga G (by decide) rfl | assumption) (by omega) (by omega) (by first | assumption | (simp (disch := omega) only [pI_eq, pI_row, pI_col, va_up_self, va_up_ne, ne_eq, not_false_eq_true, hTh, hHe, h, hk1] <;> rfl) | rfl) ?_
          | refine T_iald (pc1 := 16) (pc := 15) k_M_item_15 rfl (by first | exact ga G (by decide) rfl | assumption) (by assumption) ?_
          | (with_reducible refine T_if_neN (tgt := 22) (pc1 := 19) (pc := 16) k_M_item_16 (by decide) (by decide) (by omega) (fun hc => ?_) (fun hc => ?_) <;> first | (exfalso; omega) | skip)
          | refine T_if_ne_t (tgt := 22) (pc := 16) k_M_item_16 rfl (by decide) ?_
          | refine T_if_ne_f (tgt := 22) (pc1 := 19) (pc := 16) k_M_item_16 rfl rfl (by decide) ?_
          | refine T_if_ne (tgt := 22) (pc1 := 19) (pc := 16) k_M_item_16 rfl rfl (fun hc => ?_) (fun hc => ?_)
          | refine T_ldc (v := (-1000000011)) (pc1 := 21) (pc := 19) k_M_item_19 rfl c_M_196 ?_
          | refine T_retI (pc := 21) k_M_item_21 rfl (by first | rfl | decide | assumption) ?_
          | refine T_bipush (v := (nI 25)) (pc1 := 24) (pc := 22) k_M_item_22 rfl (by decide) ?_
          | refine T_iload_n (pc1 := 25) (pc := 24) k_M_item_24 rfl rfl ?_
          | with_reducible refine T_imulN (pc1 := 26) (pc := 25) k_M_item_25 (by decide) ?_
          | refine T_imul (pc1 := 26) (pc := 25) k_M_item_25 rfl ?_
          | refine T_istore_n (pc1 := 27) (pc := 26) k_M_item_26 rfl (Nat.le_of_ble_eq_true rfl) ?_
          | refine T_aload_n (pc1 := 28) (pc := 27) k_M_item_27 rfl rfl ?_
          | refine T_aload_nN (pc1 := 28) (pc := 27) k_M_item_27 rfl rfl ?_
          | refine T_getR (pc1 := 31) (pc := 28) k_M_item_28 rfl f_M_73 rfl (by first | exact ga G (by decide) rfl | assumption) (by first | exact gr G (by decide) rfl | assumption) ?_
          | refine T_iload_n (pc1 := 32) (pc := 31) k_M_item_31 rfl rfl ?_
          | refine T_ialdN (pc1 := 33) (pc := 32) k_M_item_32 rfl (by first | exact ga G (by decide) rfl | assumption) (by omega) (by omega) (by first | assumption | (simp (disch := omega) only [pI_eq, pI_row, pI_col, va_up_self, va_up_ne, ne_eq, not_false_eq_true, hTh, hHe, h, hk1] <;> rfl) | rfl) ?_
          | refine T_iald (pc1 := 33) (pc := 32) k_M_item_32 rfl (by first | exact ga G (by decide) rfl | assumption) (by assumption) ?_
          | refine T_iconst (v := (nI 2)) (pc1 := 34) (pc := 33) k_M_item_33 rfl (by decide) ?_
          | (with_reducible refine T_icmp_eqN (tgt := 40) (pc1 := 37) (pc := 34) k_M_item_34 (by decide) (by decide) (by omega) (by omega) (fun hc => ?_) (fun hc => ?_) <;> first | (exfalso; omega) | skip)
          | refine T_icmp_eq_t (tgt := 40) (pc := 34) k_M_item_34 rfl (by decide) ?_
          | refine T_icmp_eq_f (tgt := 40) (pc1 := 37) (pc := 34) k_M_item_34 rfl rfl (by decide) ?_
          | refine T_icmp_eq (tgt := 40) (pc1 := 37) (pc := 34) k_M_item_34 rfl rfl (fun hc => ?_) (fun hc => ?_)
          | refine T_ldc (v := (-1000000012)) (pc1 := 39) (pc := 37) k_M_item_37 rfl c_M_155 ?_
          | refine T_retI (pc := 39) k_M_item_39 rfl (by first | rfl | decide | assumption) ?_
          | refine T_iload_n (pc1 := 41) (pc := 40) k_M_item_40 rfl rfl ?_
          | refine T_iconst (v := (nI 0)) (pc1 := 42) (pc := 41) k_M_item_41 rfl (by decide) ?_
          | refine T_aload_n (pc1 := 43) (pc := 42) k_M_item_42 rfl rfl ?_
          | refine T_aload_nN (pc1 := 43) (pc := 42) k_M_item_42 rfl rfl ?_
          | refine T_getR (pc1 := 46) (pc := 43) k_M_item_43 rfl f_M_76 rfl (by first | exact ga G (by decide) rfl | assumption) (by first | exact gr G (by decide) rfl | assumption) ?_
          | refine T_iload_n (pc1 := 47) (pc := 46) k_M_item_46 rfl rfl ?_
          | refine T_ialdN (pc1 := 48) (pc := 47) k_M_item_47 rfl (by first | exact ga G (by decide) rfl | assumption) (by omega) (by omega) (by first | assumption | (simp (disch := omega) only [pI_eq, pI_row, pI_col, va_up_self, va_up_ne, ne_eq, not_false_eq_true, hTh, hHe, h, hk1] <;> rfl) | rfl) ?_
          | refine T_iald (pc1 := 48) (pc := 47) k_M_item_47 rfl (by first | exact ga G (by decide) rfl | assumption) (by assumption) ?_
          | refine T_iconst (v := (nI 1)) (pc1 := 49) (pc := 48) k_M_item_48 rfl (by decide) ?_
          | refine T_isub (pc1 := 50) (pc := 49) k_M_item_49 rfl ?_
          | (refine T_cS (As := [_, _, _]) (d1 := 1) (pc1 := 53) (pc := 50) k_M_item_50 rfl (by decide) (Nat.le_of_ble_eq_true rfl) rfl o_M_within l_M_95 rfl (c_M_within (fun hw => ?_) (fun hw => ?_)) <;> try dsimp only [psh])
          | (with_reducible refine T_if_neN (tgt := 60) (pc1 := 56) (pc := 53) k_M_item_53 (by decide) (by decide) (by omega) (fun hc => ?_) (fun hc => ?_) <;> first | (exfalso; omega) | skip)
          | refine T_if_ne_t (tgt := 60) (pc := 53) k_M_item_53 rfl (by decide) ?_
          | refine T_if_ne_f (tgt := 60) (pc1 := 56) (pc := 53) k_M_item_53 rfl rfl (by decide) ?_
          | refine T_if_ne (tgt := 60) (pc1 := 56) (pc := 53) k_M_item_53 rfl rfl (fun hc => ?_) (fun hc => ?_)
          | refine T_ldcw (v := (-1000000013)) (pc1 := 59) (pc := 56) k_M_item_56 rfl c_M_297 ?_
          | refine T_retI (pc := 59) k_M_item_59 rfl (by first | rfl | decide | assumption) ?_)
        all_goals first | contradiction | exact kk _ rfl | (exfalso; apply hp; constructor <;> omega)
    · rw [h] at kk
      repeat' (first
        | refine T_iload_n (pc1 := 1) (pc := 0) k_M_item_0 rfl rfl ?_
        | (refine T_cS (As := [_]) (d1 := 2) (pc1 := 4) (pc := 1) k_M_item_1 rfl (by decide) (Nat.le_of_ble_eq_true rfl) rfl o_M_isSlot l_M_300 rfl (c_M_isSlot (fun hw => ?_) (fun hw => ?_)) <;> try dsimp only [psh])
        | (with_reducible refine T_if_neN (tgt := 10) (pc1 := 7) (pc := 4) k_M_item_4 (by decide) (by decide) (by omega) (fun hc => ?_) (fun hc => ?_) <;> first | (exfalso; omega) | skip)
        | refine T_if_ne_t (tgt := 10) (pc := 4) k_M_item_4 rfl (by decide) ?_
        | refine T_if_ne_f (tgt := 10) (pc1 := 7) (pc := 4) k_M_item_4 rfl rfl (by decide) ?_
        | refine T_if_ne (tgt := 10) (pc1 := 7) (pc := 4) k_M_item_4 rfl rfl (fun hc => ?_) (fun hc => ?_)
        | refine T_ldc (v := (-1000000001)) (pc1 := 9) (pc := 7) k_M_item_7 rfl c_M_111 ?_
        | refine T_retI (pc := 9) k_M_item_9 rfl (by first | rfl | decide | assumption) ?_
        | refine T_aload_n (pc1 := 11) (pc := 10) k_M_item_10 rfl rfl ?_
        | refine T_aload_nN (pc1 := 11) (pc := 10) k_M_item_10 rfl rfl ?_
        | refine T_getR (pc1 := 14) (pc := 11) k_M_item_11 rfl f_M_73 rfl (by first | exact ga G (by decide) rfl | assumption) (by first | exact gr G (by decide) rfl | assumption) ?_
        | refine T_iload_n (pc1 := 15) (pc := 14) k_M_item_14 rfl rfl ?_
        | refine T_ialdN (pc1 := 16) (pc := 15) k_M_item_15 rfl (by first | exact ga G (by decide) rfl | assumption) (by omega) (by omega) (by first | assumption | (simp (disch := omega) only [pI_eq, pI_row, pI_col, va_up_self, va_up_ne, ne_eq, not_false_eq_true, hTh, h] <;> rfl) | rfl) ?_
        | refine T_iald (pc1 := 16) (pc := 15) k_M_item_15 rfl (by first | exact ga G (by decide) rfl | assumption) (by assumption) ?_
        | (with_reducible refine T_if_neN (tgt := 22) (pc1 := 19) (pc := 16) k_M_item_16 (by decide) (by decide) (by omega) (fun hc => ?_) (fun hc => ?_) <;> first | (exfalso; omega) | skip)
        | refine T_if_ne_t (tgt := 22) (pc := 16) k_M_item_16 rfl (by decide) ?_
        | refine T_if_ne_f (tgt := 22) (pc1 := 19) (pc := 16) k_M_item_16 rfl rfl (by decide) ?_
        | refine T_if_ne (tgt := 22) (pc1 := 19) (pc := 16) k_M_item_16 rfl rfl (fun hc => ?_) (fun hc => ?_)
        | refine T_ldc (v := (-1000000011)) (pc1 := 21) (pc := 19) k_M_item_19 rfl c_M_196 ?_
        | refine T_retI (pc := 21) k_M_item_21 rfl (by first | rfl | decide | assumption) ?_
        | refine T_bipush (v := (nI 25)) (pc1 := 24) (pc := 22) k_M_item_22 rfl (by decide) ?_
        | refine T_iload_n (pc1 := 25) (pc := 24) k_M_item_24 rfl rfl ?_
        | with_reducible refine T_imulN (pc1 := 26) (pc := 25) k_M_item_25 (by decide) ?_
        | refine T_imul (pc1 := 26) (pc := 25) k_M_item_25 rfl ?_
        | refine T_istore_n (pc1 := 27) (pc := 26) k_M_item_26 rfl (Nat.le_of_ble_eq_true rfl) ?_
        | refine T_aload_n (pc1 := 28) (pc := 27) k_M_item_27 rfl rfl ?_
        | refine T_aload_nN (pc1 := 28) (pc := 27) k_M_item_27 rfl rfl ?_
        | refine T_getR (pc1 := 31) (pc := 28) k_M_item_28 rfl f_M_73 rfl (by first | exact ga G (by decide) rfl | assumption) (by first | exact gr G (by decide) rfl | assumption) ?_
        | refine T_iload_n (pc1 := 32) (pc := 31) k_M_item_31 rfl rfl ?_
        | refine T_ialdN (pc1 := 33) (pc := 32) k_M_item_32 rfl (by first | exact ga G (by decide) rfl | assumption) (by omega) (by omega) (by first | assumption | (simp (disch := omega) only [pI_eq, pI_row, pI_col, va_up_self, va_up_ne, ne_eq, not_false_eq_true, hTh, h] <;> rfl) | rfl) ?_
        | refine T_iald (pc1 := 33) (pc := 32) k_M_item_32 rfl (by first | exact ga G (by decide) rfl | assumption) (by assumption) ?_
        | refine T_iconst (v := (nI 2)) (pc1 := 34) (pc := 33) k_M_item_33 rfl (by decide) ?_
        | (with_reducible refine T_icmp_eqN (tgt := 40) (pc1 := 37) (pc := 34) k_M_item_34 (by decide) (by decide) (by omega) (by omega) (fun hc => ?_) (fun hc => ?_) <;> first | (exfalso; omega) | skip)
        | refine T_icmp_eq_t (tgt := 40) (pc := 34) k_M_item_34 rfl (by decide) ?_
        | refine T_icmp_eq_f (tgt := 40) (pc1 := 37) (pc := 34) k_M_item_34 rfl rfl (by decide) ?_
        | refine T_icmp_eq (tgt := 40) (pc1 := 37) (pc := 34) k_M_item_34 rfl rfl (fun hc => ?_) (fun hc => ?_)
        | refine T_ldc (v := (-1000000012)) (pc1 := 39) (pc := 37) k_M_item_37 rfl c_M_155 ?_
        | refine T_retI (pc := 39) k_M_item_39 rfl (by first | rfl | decide | assumption) ?_
        | refine T_iload_n (pc1 := 41) (pc := 40) k_M_item_40 rfl rfl ?_
        | refine T_iconst (v := (nI 0)) (pc1 := 42) (pc := 41) k_M_item_41 rfl (by decide) ?_
        | refine T_aload_n (pc1 := 43) (pc := 42) k_M_item_42 rfl rfl ?_
        | refine T_aload_nN (pc1 := 43) (pc := 42) k_M_item_42 rfl rfl ?_
        | refine T_getR (pc1 := 46) (pc := 43) k_M_item_43 rfl f_M_76 rfl (by first | exact ga G (by decide) rfl | assumption) (by first | exact gr G (by decide) rfl | assumption) ?_
        | refine T_iload_n (pc1 := 47) (pc := 46) k_M_item_46 rfl rfl ?_
        | refine T_ialdN (pc1 := 48) (pc := 47) k_M_item_47 rfl (by first | exact ga G (by decide) rfl | assumption) (by omega) (by omega) (by first | assumption | (simp (disch := omega) only [pI_eq, pI_row, pI_col, va_up_self, va_up_ne, ne_eq, not_false_eq_true, hTh, h] <;> rfl) | rfl) ?_
        | refine T_iald (pc1 := 48) (pc := 47) k_M_item_47 rfl (by first | exact ga G (by decide) rfl | assumption) (by assumption) ?_
        | refine T_iconst (v := (nI 1)) (pc1 := 49) (pc := 48) k_M_item_48 rfl (by decide) ?_
        | refine T_isub (pc1 := 50) (pc := 49) k_M_item_49 rfl ?_
        | (refine T_cS (As := [_, _, _]) (d1 := 1) (pc1 := 53) (pc := 50) k_M_item_50 rfl (by decide) (Nat.le_of_ble_eq_true rfl) rfl o_M_within l_M_95 rfl (c_M_within (fun hw => ?_) (fun hw => ?_)) <;> try dsimp only [psh])
        | (with_reducible refine T_if_neN (tgt := 60) (pc1 := 56) (pc := 53) k_M_item_53 (by decide) (by decide) (by omega) (fun hc => ?_) (fun hc => ?_) <;> first | (exfalso; omega) | skip)
        | refine T_if_ne_t (tgt := 60) (pc := 53) k_M_item_53 rfl (by decide) ?_
        | refine T_if_ne_f (tgt := 60) (pc1 := 56) (pc := 53) k_M_item_53 rfl rfl (by decide) ?_
        | refine T_if_ne (tgt := 60) (pc1 := 56) (pc := 53) k_M_item_53 rfl rfl (fun hc => ?_) (fun hc => ?_)
        | refine T_ldcw (v := (-1000000013)) (pc1 := 59) (pc := 56) k_M_item_56 rfl c_M_297 ?_
        | refine T_retI (pc := 59) k_M_item_59 rfl (by first | rfl | decide | assumption) ?_
        | refine T_aload_n (pc1 := 61) (pc := 60) k_M_item_60 rfl rfl ?_
        | refine T_aload_nN (pc1 := 61) (pc := 60) k_M_item_60 rfl rfl ?_
        | refine T_getR (pc1 := 64) (pc := 61) k_M_item_61 rfl f_M_76 rfl (by first | exact ga G (by decide) rfl | assumption) (by first | exact gr G (by decide) rfl | assumption) ?_
        | refine T_iload_n (pc1 := 65) (pc := 64) k_M_item_64 rfl rfl ?_
        | refine T_iconst (v := (nI 1)) (pc1 := 66) (pc := 65) k_M_item_65 rfl (by decide) ?_
        | with_reducible refine T_iaddN (pc1 := 67) (pc := 66) k_M_item_66 (by decide) ?_
        | refine T_iadd (pc1 := 67) (pc := 66) k_M_item_66 rfl ?_
        | refine T_iload_n (pc1 := 68) (pc := 67) k_M_item_67 rfl rfl ?_
        | with_reducible refine T_iaddN (pc1 := 69) (pc := 68) k_M_item_68 (by decide) ?_
        | refine T_iadd (pc1 := 69) (pc := 68) k_M_item_68 rfl ?_
        | refine T_ialdN (pc1 := 70) (pc := 69) k_M_item_69 rfl (by first | exact ga G (by decide) rfl | assumption) (by omega) (by omega) (by first | assumption | (simp (disch := omega) only [pI_eq, pI_row, pI_col, va_up_self, va_up_ne, ne_eq, not_false_eq_true, hTh, h] <;> rfl) | rfl) ?_
        | refine T_iald (pc1 := 70) (pc := 69) k_M_item_69 rfl (by first | exact ga G (by decide) rfl | assumption) (by assumption) ?_
        | refine T_ldc (v := (-1000000005)) (pc1 := 72) (pc := 70) k_M_item_70 rfl c_M_103 ?_
        | (with_reducible refine T_icmp_neN (tgt := 80) (pc1 := 75) (pc := 72) k_M_item_72 (by decide) (by decide) (by omega) (by omega) (fun hc => ?_) (fun hc => ?_) <;> first | (exfalso; omega) | skip)
        | refine T_icmp_ne_t (tgt := 80) (pc := 72) k_M_item_72 rfl (by decide) ?_
        | refine T_icmp_ne_f (tgt := 80) (pc1 := 75) (pc := 72) k_M_item_72 rfl rfl (by decide) ?_
        | refine T_icmp_ne (tgt := 80) (pc1 := 75) (pc := 72) k_M_item_72 rfl rfl (fun hc => ?_) (fun hc => ?_)
        | refine T_ldc (v := (-1000000012)) (pc1 := 77) (pc := 75) k_M_item_75 rfl c_M_155 ?_
        | refine T_goto (tgt := 90) (pc := 77) k_M_item_77 rfl ?_
        | refine T_aload_n (pc1 := 81) (pc := 80) k_M_item_80 rfl rfl ?_
        | refine T_aload_nN (pc1 := 81) (pc := 80) k_M_item_80 rfl rfl ?_
        | refine T_getR (pc1 := 84) (pc := 81) k_M_item_81 rfl f_M_76 rfl (by first | exact ga G (by decide) rfl | assumption) (by first | exact gr G (by decide) rfl | assumption) ?_
        | refine T_iload_n (pc1 := 85) (pc := 84) k_M_item_84 rfl rfl ?_
        | refine T_iconst (v := (nI 1)) (pc1 := 86) (pc := 85) k_M_item_85 rfl (by decide) ?_
        | with_reducible refine T_iaddN (pc1 := 87) (pc := 86) k_M_item_86 (by decide) ?_
        | refine T_iadd (pc1 := 87) (pc := 86) k_M_item_86 rfl ?_
        | refine T_iload_n (pc1 := 88) (pc := 87) k_M_item_87 rfl rfl ?_
        | with_reducible refine T_iaddN (pc1 := 89) (pc := 88) k_M_item_88 (by decide) ?_
        | refine T_iadd (pc1 := 89) (pc := 88) k_M_item_88 rfl ?_
        | refine T_ialdN (pc1 := 90) (pc := 89) k_M_item_89 rfl (by first | exact ga G (by decide) rfl | assumption) (by omega) (by omega) (by first | assumption | (simp (disch := omega) only [pI_eq, pI_row, pI_col, va_up_self, va_up_ne, ne_eq, not_false_eq_true, hTh, h] <;> rfl) | rfl) ?_
        | refine T_iald (pc1 := 90) (pc := 89) k_M_item_89 rfl (by first | exact ga G (by decide) rfl | assumption) (by assumption) ?_
        | refine T_retI (pc := 90) k_M_item_90 rfl (by first | rfl | decide | assumption) ?_)
      all_goals first | contradiction | exact kk _ rfl
  · rw [if_neg hs] at kk
    repeat' (first
      | refine T_iload_n (pc1 := 1) (pc := 0) k_M_item_0 rfl rfl ?_
      | (refine T_cS (As := [_]) (d1 := 2) (pc1 := 4) (pc := 1) k_M_item_1 rfl (by decide) (Nat.le_of_ble_eq_true rfl) rfl o_M_isSlot l_M_300 rfl (c_M_isSlot (fun hw => ?_) (fun hw => ?_)) <;> try dsimp only [psh])
      | (with_reducible refine T_if_neN (tgt := 10) (pc1 := 7) (pc := 4) k_M_item_4 (by decide) (by decide) (by omega) (fun hc => ?_) (fun hc => ?_) <;> first | (exfalso; omega) | skip)
      | refine T_if_ne_t (tgt := 10) (pc := 4) k_M_item_4 rfl (by decide) ?_
      | refine T_if_ne_f (tgt := 10) (pc1 := 7) (pc := 4) k_M_item_4 rfl rfl (by decide) ?_
      | refine T_if_ne (tgt := 10) (pc1 := 7) (pc := 4) k_M_item_4 rfl rfl (fun hc => ?_) (fun hc => ?_)
      | refine T_ldc (v := (-1000000001)) (pc1 := 9) (pc := 7) k_M_item_7 rfl c_M_111 ?_
      | refine T_retI (pc := 9) k_M_item_9 rfl (by first | rfl | decide | assumption) ?_)
    all_goals first | exact kk _ rfl | contradiction
end M18
