/-! The model: minutes of a bit, what is thought of it. -/
section M4
variable {g : Geo} {I : IM} {K : Option Value → Geo → IM → Prop}
theorem pl_congr {c nm nm' : Row} {m lv nn : Nat} (ok : okc c m lv nn) (h : ∀ k, k < nn → nm k = nm' k) (hnn : nn < 2147483648) : ∀ k, k ≤ m → pl c nm k = pl c nm' k
  | 0, _ => rfl
  | k + 1, hk => by
    have ih := pl_congr ok h hnn k (by omega)
    unfold pl
    rw [ih]
    by_cases h1 : (0 : Int32) ≤ c k
    · rw [if_pos h1, if_pos h1]
    · rw [if_neg h1, if_neg h1]
      by_cases h2 : (-10 : Int32) ≤ c k
      · rw [if_pos h2, if_pos h2]
        obtain ⟨q, hq, e⟩ := rg_of (((ok.1 k (by omega)).1 h2).2 (Int32.not_le.mp h1)) hnn
        rw [e, nI_clamp (by omega), h q hq]
      · rw [if_neg h2, if_neg h2]
theorem okL_txt {N : Row} {n tn key t : Nat} (ok : okL N n tn) (h : txt N key tn = some t) (hk : key < 3) : ∃ lv m : Nat, t < 14 ∧ N (158 + 100 * t) = nI m ∧ m ≤ 96 ∧ lv ≤ 96 ∧ okc (cod N t) m lv (nnOf key) := by
  obtain ⟨h1, h2⟩ := txt_lt h
  obtain ⟨key', lv, m, a1, a2, a3, a4, a5, a6, a7⟩ := ok.2.2.2.2.2.1 t h1
  have : key' = key := (nI_eq (by omega) (by omega)).mp (a1.symm.trans h2)
  subst this
  have := ok.2.2.2.1
  exact ⟨lv, m, by omega, a5, a6, a4, a7⟩
theorem nn_le (key : Nat) : nnOf key ≤ 3 := by unfold nnOf; split <;> omega
theorem evl_congr {N nm nm' : Row} {t m lv nn : Nat} (ok : okc (cod N t) m lv nn) (h : ∀ k, k < nn → nm k = nm' k) (hnn : nn < 2147483648) : evl N t m nm = evl N t m nm' := by
  unfold evl
  rw [pl_congr ok h hnn m (Nat.le_refl _)]
theorem nm3_of {f : Row} {a b c : Int32} (h0 : f 0 = a) (h1 : f 1 = b) (h2 : f 2 = c) : ∀ k, k < 3 → f k = nm3 a b c k := by
  intro k hk
  obtain rfl | rfl | rfl : k = 0 ∨ k = 1 ∨ k = 2 := by omega
  · exact h0
  · exact h1
  · exact h2
set_option maxHeartbeats 4000000 in
theorem c_M_plainly {N : Row} {n tn b : Nat} (G : GeoOK g) (hN : I 102 = N) (ok : okL N n tn) (hb : b < n) (kk : ∀ J, eqx [112, 113] I J → K (some (.int (pln N tn b))) g J) : Cl 3 M_M_plainly [.ref 101, .int (nI b)] g I K := by
  show Rl 3 M_M_plainly 0 [some (.ref 101), some (.int (nI b)), none] [] g I K
  obtain ⟨h5, hn, h6, h14, -⟩ := id ok
  unfold pln at kk
  cases htx : txt N 0 tn with
  | none =>
    have hv : opt1 (txt N 0 tn) = -1 := by rw [htx]; rfl
    rw [htx] at kk
    have e3 : I 102 (12 + 6 * b + 3) = bf N b 3 := by rw [hN]; rfl
    repeat' (first
      | refine T_aload_n (pc1 := 1) (pc := 0) k_M_plainly_0 rfl rfl ?_
      | refine T_aload_nN (pc1 := 1) (pc := 0) k_M_plainly_0 rfl rfl ?_
      | refine T_iconst (v := (nI 0)) (pc1 := 2) (pc := 1) k_M_plainly_1 rfl (by decide) ?_
      | (refine T_cV (As := [_]) (d1 := 1) (pc1 := 5) (pc := 2) k_M_plainly_2 rfl (by decide) (Nat.le_of_ble_eq_true rfl) rfl o_M_counting l_M_121 rfl (by first | exact ga G (by decide) rfl | assumption) rfl (c_M_counting G (by assumption) (by assumption) (by assumption) (by assumption) ?_) <;> try dsimp only [psh])
      | refine T_istore_n (pc1 := 6) (pc := 5) k_M_plainly_5 rfl (Nat.le_of_ble_eq_true rfl) ?_
      | refine T_iload_n (pc1 := 7) (pc := 6) k_M_plainly_6 rfl rfl ?_
      | (with_reducible refine T_if_geN (tgt := 17) (pc1 := 10) (pc := 7) k_M_plainly_7 (by decide) (by decide) (by omega) ?_ <;> first | (exfalso; omega) | skip)
      | refine T_if_ge_t (tgt := 17) (pc := 7) k_M_plainly_7 rfl (by decide) ?_
      | refine T_if_ge_f (tgt := 17) (pc1 := 10) (pc := 7) k_M_plainly_7 rfl rfl (by decide) ?_
      | refine T_if_ge (tgt := 17) (pc1 := 10) (pc := 7) k_M_plainly_7 rfl rfl (fun hc => ?_) (fun hc => ?_)
      | refine T_aload_n (pc1 := 11) (pc := 10) k_M_plainly_10 rfl rfl ?_
      | refine T_aload_nN (pc1 := 11) (pc := 10) k_M_plainly_10 rfl rfl ?_
      | refine T_iload_n (pc1 := 12) (pc := 11) k_M_plainly_11 rfl rfl ?_
      | refine T_iconst (v := (nI 3)) (pc1 := 13) (pc := 12) k_M_plainly_12 rfl (by decide) ?_
      | (refine T_cV (As := [_, _]) (d1 := 1) (pc1 := 16) (pc := 13) k_M_plainly_13 rfl (by decide) (Nat.le_of_ble_eq_true rfl) rfl o_M_bitIs l_M_124 rfl (by first | exact ga G (by decide) rfl | assumption) rfl (c_M_bitIs G (by omega) (by omega) (by first | assumption | rfl) ?_) <;> try dsimp only [psh])
      | refine T_retI (pc := 16) k_M_plainly_16 rfl (by first | rfl | decide | assumption) ?_
      | refine T_aload_n (pc1 := 18) (pc := 17) k_M_plainly_17 rfl rfl ?_
      | refine T_aload_nN (pc1 := 18) (pc := 17) k_M_plainly_17 rfl rfl ?_
      | refine T_getR (pc1 := 21) (pc := 18) k_M_plainly_18 rfl f_M_55 rfl (by first | exact ga G (by decide) rfl | assumption) (by first | exact gr G (by decide) rfl | assumption) ?_
      | refine T_iconst (v := (nI 0)) (pc1 := 22) (pc := 21) k_M_plainly_21 rfl (by decide) ?_
      | refine T_aload_n (pc1 := 23) (pc := 22) k_M_plainly_22 rfl rfl ?_
      | refine T_aload_nN (pc1 := 23) (pc := 22) k_M_plainly_22 rfl rfl ?_
      | refine T_iload_n (pc1 := 24) (pc := 23) k_M_plainly_23 rfl rfl ?_
      | refine T_iconst (v := (nI 3)) (pc1 := 25) (pc := 24) k_M_plainly_24 rfl (by decide) ?_
      | (refine T_cV (As := [_, _]) (d1 := 1) (pc1 := 28) (pc := 25) k_M_plainly_25 rfl (by decide) (Nat.le_of_ble_eq_true rfl) rfl o_M_bitIs l_M_124 rfl (by first | exact ga G (by decide) rfl | assumption) rfl (c_M_bitIs G (by omega) (by omega) (by first | assumption | rfl) ?_) <;> try dsimp only [psh])
      | refine T_iastN (pc1 := 29) (pc := 28) k_M_plainly_28 rfl (by first | exact ga G (by decide) rfl | assumption) (by omega) (by omega) ?_
      | refine T_aload_n (pc1 := 30) (pc := 29) k_M_plainly_29 rfl rfl ?_
      | refine T_aload_nN (pc1 := 30) (pc := 29) k_M_plainly_29 rfl rfl ?_
      | refine T_getR (pc1 := 33) (pc := 30) k_M_plainly_30 rfl f_M_55 rfl (by first | exact ga G (by decide) rfl | assumption) (by first | exact gr G (by decide) rfl | assumption) ?_
      | refine T_iconst (v := (nI 1)) (pc1 := 34) (pc := 33) k_M_plainly_33 rfl (by decide) ?_
      | refine T_aload_n (pc1 := 35) (pc := 34) k_M_plainly_34 rfl rfl ?_
      | refine T_aload_nN (pc1 := 35) (pc := 34) k_M_plainly_34 rfl rfl ?_
      | refine T_getR (pc1 := 38) (pc := 35) k_M_plainly_35 rfl f_M_9 rfl (by first | exact ga G (by decide) rfl | assumption) (by first | exact gr G (by decide) rfl | assumption) ?_
      | refine T_iconst (v := (nI 3)) (pc1 := 39) (pc := 38) k_M_plainly_38 rfl (by decide) ?_
      | refine T_ialdN (pc1 := 40) (pc := 39) k_M_plainly_39 rfl (by first | exact ga G (by decide) rfl | assumption) (by omega) (by omega) (by first | assumption | (simp (disch := omega) only [pI_eq, pI_row, pI_col, va_up_self, va_up_ne, ne_eq, not_false_eq_true] <;> rfl) | rfl) ?_
      | refine T_iald (pc1 := 40) (pc := 39) k_M_plainly_39 rfl (by first | exact ga G (by decide) rfl | assumption) (by assumption) ?_
      | refine T_iastN (pc1 := 41) (pc := 40) k_M_plainly_40 rfl (by first | exact ga G (by decide) rfl | assumption) (by omega) (by omega) ?_
      | refine T_aload_n (pc1 := 42) (pc := 41) k_M_plainly_41 rfl rfl ?_
      | refine T_aload_nN (pc1 := 42) (pc := 41) k_M_plainly_41 rfl rfl ?_
      | refine T_getR (pc1 := 45) (pc := 42) k_M_plainly_42 rfl f_M_55 rfl (by first | exact ga G (by decide) rfl | assumption) (by first | exact gr G (by decide) rfl | assumption) ?_
      | refine T_iconst (v := (nI 2)) (pc1 := 46) (pc := 45) k_M_plainly_45 rfl (by decide) ?_
      | refine T_aload_n (pc1 := 47) (pc := 46) k_M_plainly_46 rfl rfl ?_
      | refine T_aload_nN (pc1 := 47) (pc := 46) k_M_plainly_46 rfl rfl ?_
      | refine T_iload_n (pc1 := 48) (pc := 47) k_M_plainly_47 rfl rfl ?_
      | refine T_iconst (v := (nI 4)) (pc1 := 49) (pc := 48) k_M_plainly_48 rfl (by decide) ?_
      | (refine T_cV (As := [_, _]) (d1 := 1) (pc1 := 52) (pc := 49) k_M_plainly_49 rfl (by decide) (Nat.le_of_ble_eq_true rfl) rfl o_M_bitIs l_M_124 rfl (by first | exact ga G (by decide) rfl | assumption) rfl (c_M_bitIs G (by omega) (by omega) (by first | assumption | rfl) ?_) <;> try dsimp only [psh])
      | refine T_iastN (pc1 := 53) (pc := 52) k_M_plainly_52 rfl (by first | exact ga G (by decide) rfl | assumption) (by omega) (by omega) ?_
      | refine T_aload_n (pc1 := 54) (pc := 53) k_M_plainly_53 rfl rfl ?_
      | refine T_aload_nN (pc1 := 54) (pc := 53) k_M_plainly_53 rfl rfl ?_
      | refine T_iload_n (pc1 := 55) (pc := 54) k_M_plainly_54 rfl rfl ?_
      | refine T_iconst (v := (nI 1)) (pc1 := 59) (pc := 58) k_M_plainly_58 rfl (by decide) ?_
      | refine T_sipush (v := (nI 999)) (pc1 := 62) (pc := 59) k_M_plainly_59 rfl (by decide) ?_
      | (refine T_cS (As := [_, _, _]) (d1 := 1) (pc1 := 65) (pc := 62) k_M_plainly_62 rfl (by decide) (Nat.le_of_ble_eq_true rfl) rfl o_M_between l_M_130 rfl (c_M_between ?_) <;> try dsimp only [psh])
      | refine T_retI (pc := 65) k_M_plainly_65 rfl (by first | rfl | decide | assumption) ?_)
    exact kk I eqx_rf
  | some t =>
    have hv : opt1 (txt N 0 tn) = nI t := by rw [htx]; rfl
    rw [htx] at kk
    obtain ⟨lv, m, ht, hm, hm96, hlv, hok⟩ := okL_txt ok htx (by decide)
    repeat' (first
      | refine T_aload_n (pc1 := 1) (pc := 0) k_M_plainly_0 rfl rfl ?_
      | refine T_aload_nN (pc1 := 1) (pc := 0) k_M_plainly_0 rfl rfl ?_
      | refine T_iconst (v := (nI 0)) (pc1 := 2) (pc := 1) k_M_plainly_1 rfl (by decide) ?_
      | (refine T_cV (As := [_]) (d1 := 1) (pc1 := 5) (pc := 2) k_M_plainly_2 rfl (by decide) (Nat.le_of_ble_eq_true rfl) rfl o_M_counting l_M_121 rfl (by first | exact ga G (by decide) rfl | assumption) rfl (c_M_counting G (by assumption) (by assumption) (by assumption) (by assumption) ?_) <;> try dsimp only [psh])
      | refine T_istore_n (pc1 := 6) (pc := 5) k_M_plainly_5 rfl (Nat.le_of_ble_eq_true rfl) ?_
      | refine T_iload_n (pc1 := 7) (pc := 6) k_M_plainly_6 rfl rfl ?_
      | (with_reducible refine T_if_geN (tgt := 17) (pc1 := 10) (pc := 7) k_M_plainly_7 (by decide) (by decide) (by omega) ?_ <;> first | (exfalso; omega) | skip)
      | refine T_if_ge_t (tgt := 17) (pc := 7) k_M_plainly_7 rfl (by decide) ?_
      | refine T_if_ge_f (tgt := 17) (pc1 := 10) (pc := 7) k_M_plainly_7 rfl rfl (by decide) ?_
      | refine T_if_ge (tgt := 17) (pc1 := 10) (pc := 7) k_M_plainly_7 rfl rfl (fun hc => ?_) (fun hc => ?_)
      | refine T_aload_n (pc1 := 11) (pc := 10) k_M_plainly_10 rfl rfl ?_
      | refine T_aload_nN (pc1 := 11) (pc := 10) k_M_plainly_10 rfl rfl ?_
      | refine T_iload_n (pc1 := 12) (pc := 11) k_M_plainly_11 rfl rfl ?_
      | refine T_iconst (v := (nI 3)) (pc1 := 13) (pc := 12) k_M_plainly_12 rfl (by decide) ?_
      | (refine T_cV (As := [_, _]) (d1 := 1) (pc1 := 16) (pc := 13) k_M_plainly_13 rfl (by decide) (Nat.le_of_ble_eq_true rfl) rfl o_M_bitIs l_M_124 rfl (by first | exact ga G (by decide) rfl | assumption) rfl (c_M_bitIs G (by omega) (by omega) (by first | assumption | rfl) ?_) <;> try dsimp only [psh])
      | refine T_retI (pc := 16) k_M_plainly_16 rfl (by first | rfl | decide | assumption) ?_
      | refine T_aload_n (pc1 := 18) (pc := 17) k_M_plainly_17 rfl rfl ?_
      | refine T_aload_nN (pc1 := 18) (pc := 17) k_M_plainly_17 rfl rfl ?_
      | refine T_getR (pc1 := 21) (pc := 18) k_M_plainly_18 rfl f_M_55 rfl (by first | exact ga G (by decide) rfl | assumption) (by first | exact gr G (by decide) rfl | assumption) ?_
      | refine T_iconst (v := (nI 0)) (pc1 := 22) (pc := 21) k_M_plainly_21 rfl (by decide) ?_
      | refine T_aload_n (pc1 := 23) (pc := 22) k_M_plainly_22 rfl rfl ?_
      | refine T_aload_nN (pc1 := 23) (pc := 22) k_M_plainly_22 rfl rfl ?_
      | refine T_iload_n (pc1 := 24) (pc := 23) k_M_plainly_23 rfl rfl ?_
      | refine T_iconst (v := (nI 3)) (pc1 := 25) (pc := 24) k_M_plainly_24 rfl (by decide) ?_
      | (refine T_cV (As := [_, _]) (d1 := 1) (pc1 := 28) (pc := 25) k_M_plainly_25 rfl (by decide) (Nat.le_of_ble_eq_true rfl) rfl o_M_bitIs l_M_124 rfl (by first | exact ga G (by decide) rfl | assumption) rfl (c_M_bitIs G (by omega) (by omega) (by first | assumption | rfl) ?_) <;> try dsimp only [psh])
      | refine T_iastN (pc1 := 29) (pc := 28) k_M_plainly_28 rfl (by first | exact ga G (by decide) rfl | assumption) (by omega) (by omega) ?_
      | refine T_aload_n (pc1 := 30) (pc := 29) k_M_plainly_29 rfl rfl ?_
      | refine T_aload_nN (pc1 := 30) (pc := 29) k_M_plainly_29 rfl rfl ?_
      | refine T_getR (pc1 := 33) (pc := 30) k_M_plainly_30 rfl f_M_55 rfl (by first | exact ga G (by decide) rfl | assumption) (by first | exact gr G (by decide) rfl | assumption) ?_
      | refine T_iconst (v := (nI 1)) (pc1 := 34) (pc := 33) k_M_plainly_33 rfl (by decide) ?_
      | refine T_aload_n (pc1 := 35) (pc := 34) k_M_plainly_34 rfl rfl ?_
      | refine T_aload_nN (pc1 := 35) (pc := 34) k_M_plainly_34 rfl rfl ?_
      | refine T_getR (pc1 := 38) (pc := 35) k_M_plainly_35 rfl f_M_9 rfl (by first | exact ga G (by decide) rfl | assumption) (by first | exact gr G (by decide) rfl | assumption) ?_
      | refine T_iconst (v := (nI 3)) (pc1 := 39) (pc := 38) k_M_plainly_38 rfl (by decide) ?_
      | refine T_ialdN (pc1 := 40) (pc := 39) k_M_plainly_39 rfl (by first | exact ga G (by decide) rfl | assumption) (by omega) (by omega) (by first | assumption | (simp (disch := omega) only [pI_eq, pI_row, pI_col, va_up_self, va_up_ne, ne_eq, not_false_eq_true] <;> rfl) | rfl) ?_
      | refine T_iald (pc1 := 40) (pc := 39) k_M_plainly_39 rfl (by first | exact ga G (by decide) rfl | assumption) (by assumption) ?_
      | refine T_iastN (pc1 := 41) (pc := 40) k_M_plainly_40 rfl (by first | exact ga G (by decide) rfl | assumption) (by omega) (by omega) ?_
      | refine T_aload_n (pc1 := 42) (pc := 41) k_M_plainly_41 rfl rfl ?_
      | refine T_aload_nN (pc1 := 42) (pc := 41) k_M_plainly_41 rfl rfl ?_
      | refine T_getR (pc1 := 45) (pc := 42) k_M_plainly_42 rfl f_M_55 rfl (by first | exact ga G (by decide) rfl | assumption) (by first | exact gr G (by decide) rfl | assumption) ?_
      | refine T_iconst (v := (nI 2)) (pc1 := 46) (pc := 45) k_M_plainly_45 rfl (by decide) ?_
      | refine T_aload_n (pc1 := 47) (pc := 46) k_M_plainly_46 rfl rfl ?_
      | refine T_aload_nN (pc1 := 47) (pc := 46) k_M_plainly_46 rfl rfl ?_
      | refine T_iload_n (pc1 := 48) (pc := 47) k_M_plainly_47 rfl rfl ?_
      | refine T_iconst (v := (nI 4)) (pc1 := 49) (pc := 48) k_M_plainly_48 rfl (by decide) ?_
      | (refine T_cV (As := [_, _]) (d1 := 1) (pc1 := 52) (pc := 49) k_M_plainly_49 rfl (by decide) (Nat.le_of_ble_eq_true rfl) rfl o_M_bitIs l_M_124 rfl (by first | exact ga G (by decide) rfl | assumption) rfl (c_M_bitIs G (by omega) (by omega) (by first | assumption | rfl) ?_) <;> try dsimp only [psh])
      | refine T_iastN (pc1 := 53) (pc := 52) k_M_plainly_52 rfl (by first | exact ga G (by decide) rfl | assumption) (by omega) (by omega) ?_
      | refine T_aload_n (pc1 := 54) (pc := 53) k_M_plainly_53 rfl rfl ?_
      | refine T_aload_nN (pc1 := 54) (pc := 53) k_M_plainly_53 rfl rfl ?_
      | refine T_iload_n (pc1 := 55) (pc := 54) k_M_plainly_54 rfl rfl ?_
      | refine T_iconst (v := (nI 1)) (pc1 := 59) (pc := 58) k_M_plainly_58 rfl (by decide) ?_
      | refine T_sipush (v := (nI 999)) (pc1 := 62) (pc := 59) k_M_plainly_59 rfl (by decide) ?_
      | (refine T_cS (As := [_, _, _]) (d1 := 1) (pc1 := 65) (pc := 62) k_M_plainly_62 rfl (by decide) (Nat.le_of_ble_eq_true rfl) rfl o_M_between l_M_130 rfl (c_M_between ?_) <;> try dsimp only [psh])
      | refine T_retI (pc := 65) k_M_plainly_65 rfl (by first | rfl | decide | assumption) ?_)
    refine T_cV (As := [_]) (d1 := 2) (pc1 := 58) (pc := 55) k_M_plainly_55 rfl (by decide) (Nat.le_of_ble_eq_true rfl) rfl o_M_worked l_M_127 rfl (ga G (by decide) rfl) rfl (c_M_worked (N := N) (m := m) (lv := lv) (nn := 3) G ?_ rfl ht hm hm96 hlv (by decide) hok (fun J hJ => ?_))
    · rw [pI_rw (by decide), pI_rw (by decide), pI_rw (by decide)]; exact hN
    rw [evl_congr (nm' := nm3 (bf N b 3) (N 3) (bf N b 4)) hok (nm3_of ?_ ?_ ?_) (by decide)]
    · repeat' (first
        | refine T_aload_n (pc1 := 1) (pc := 0) k_M_plainly_0 rfl rfl ?_
        | refine T_aload_nN (pc1 := 1) (pc := 0) k_M_plainly_0 rfl rfl ?_
        | refine T_iconst (v := (nI 0)) (pc1 := 2) (pc := 1) k_M_plainly_1 rfl (by decide) ?_
        | (refine T_cV (As := [_]) (d1 := 1) (pc1 := 5) (pc := 2) k_M_plainly_2 rfl (by decide) (Nat.le_of_ble_eq_true rfl) rfl o_M_counting l_M_121 rfl (by first | exact ga G (by decide) rfl | assumption) rfl (c_M_counting G (by assumption) (by assumption) (by assumption) (by assumption) ?_) <;> try dsimp only [psh])
        | refine T_istore_n (pc1 := 6) (pc := 5) k_M_plainly_5 rfl (Nat.le_of_ble_eq_true rfl) ?_
        | refine T_iload_n (pc1 := 7) (pc := 6) k_M_plainly_6 rfl rfl ?_
        | (with_reducible refine T_if_geN (tgt := 17) (pc1 := 10) (pc := 7) k_M_plainly_7 (by decide) (by decide) (by omega) ?_ <;> first | (exfalso; omega) | skip)
        | refine T_if_ge_t (tgt := 17) (pc := 7) k_M_plainly_7 rfl (by decide) ?_
        | refine T_if_ge_f (tgt := 17) (pc1 := 10) (pc := 7) k_M_plainly_7 rfl rfl (by decide) ?_
        | refine T_if_ge (tgt := 17) (pc1 := 10) (pc := 7) k_M_plainly_7 rfl rfl (fun hc => ?_) (fun hc => ?_)
        | refine T_aload_n (pc1 := 11) (pc := 10) k_M_plainly_10 rfl rfl ?_
        | refine T_aload_nN (pc1 := 11) (pc := 10) k_M_plainly_10 rfl rfl ?_
        | refine T_iload_n (pc1 := 12) (pc := 11) k_M_plainly_11 rfl rfl ?_
        | refine T_iconst (v := (nI 3)) (pc1 := 13) (pc := 12) k_M_plainly_12 rfl (by decide) ?_
        | (refine T_cV (As := [_, _]) (d1 := 1) (pc1 := 16) (pc := 13) k_M_plainly_13 rfl (by decide) (Nat.le_of_ble_eq_true rfl) rfl o_M_bitIs l_M_124 rfl (by first | exact ga G (by decide) rfl | assumption) rfl (c_M_bitIs G (by omega) (by omega) (by first | assumption | rfl) ?_) <;> try dsimp only [psh])
        | refine T_retI (pc := 16) k_M_plainly_16 rfl (by first | rfl | decide | assumption) ?_
        | refine T_aload_n (pc1 := 18) (pc := 17) k_M_plainly_17 rfl rfl ?_
        | refine T_aload_nN (pc1 := 18) (pc := 17) k_M_plainly_17 rfl rfl ?_
        | refine T_getR (pc1 := 21) (pc := 18) k_M_plainly_18 rfl f_M_55 rfl (by first | exact ga G (by decide) rfl | assumption) (by first | exact gr G (by decide) rfl | assumption) ?_
        | refine T_iconst (v := (nI 0)) (pc1 := 22) (pc := 21) k_M_plainly_21 rfl (by decide) ?_
        | refine T_aload_n (pc1 := 23) (pc := 22) k_M_plainly_22 rfl rfl ?_
        | refine T_aload_nN (pc1 := 23) (pc := 22) k_M_plainly_22 rfl rfl ?_
        | refine T_iload_n (pc1 := 24) (pc := 23) k_M_plainly_23 rfl rfl ?_
        | refine T_iconst (v := (nI 3)) (pc1 := 25) (pc := 24) k_M_plainly_24 rfl (by decide) ?_
        | (refine T_cV (As := [_, _]) (d1 := 1) (pc1 := 28) (pc := 25) k_M_plainly_25 rfl (by decide) (Nat.le_of_ble_eq_true rfl) rfl o_M_bitIs l_M_124 rfl (by first | exact ga G (by decide) rfl | assumption) rfl (c_M_bitIs G (by omega) (by omega) (by first | assumption | rfl) ?_) <;> try dsimp only [psh])
        | refine T_iastN (pc1 := 29) (pc := 28) k_M_plainly_28 rfl (by first | exact ga G (by decide) rfl | assumption) (by omega) (by omega) ?_
        | refine T_aload_n (pc1 := 30) (pc := 29) k_M_plainly_29 rfl rfl ?_
        | refine T_aload_nN (pc1 := 30) (pc := 29) k_M_plainly_29 rfl rfl ?_
        | refine T_getR (pc1 := 33) (pc := 30) k_M_plainly_30 rfl f_M_55 rfl (by first | exact ga G (by decide) rfl | assumption) (by first | exact gr G (by decide) rfl | assumption) ?_
        | refine T_iconst (v := (nI 1)) (pc1 := 34) (pc := 33) k_M_plainly_33 rfl (by decide) ?_
        | refine T_aload_n (pc1 := 35) (pc := 34) k_M_plainly_34 rfl rfl ?_
        | refine T_aload_nN (pc1 := 35) (pc := 34) k_M_plainly_34 rfl rfl ?_
        | refine T_getR (pc1 := 38) (pc := 35) k_M_plainly_35 rfl f_M_9 rfl (by first | exact ga G (by decide) rfl | assumption) (by first | exact gr G (by decide) rfl | assumption) ?_
        | refine T_iconst (v := (nI 3)) (pc1 := 39) (pc := 38) k_M_plainly_38 rfl (by decide) ?_
        | refine T_ialdN (pc1 := 40) (pc := 39) k_M_plainly_39 rfl (by first | exact ga G (by decide) rfl | assumption) (by omega) (by omega) (by first | assumption | (simp (disch := omega) only [pI_eq, pI_row, pI_col, va_up_self, va_up_ne, ne_eq, not_false_eq_true] <;> rfl) | rfl) ?_
        | refine T_iald (pc1 := 40) (pc := 39) k_M_plainly_39 rfl (by first | exact ga G (by decide) rfl | assumption) (by assumption) ?_
        | refine T_iastN (pc1 := 41) (pc := 40) k_M_plainly_40 rfl (by first | exact ga G (by decide) rfl | assumption) (by omega) (by omega) ?_
        | refine T_aload_n (pc1 := 42) (pc := 41) k_M_plainly_41 rfl rfl ?_
        | refine T_aload_nN (pc1 := 42) (pc := 41) k_M_plainly_41 rfl rfl ?_
        | refine T_getR (pc1 := 45) (pc := 42) k_M_plainly_42 rfl f_M_55 rfl (by first | exact ga G (by decide) rfl | assumption) (by first | exact gr G (by decide) rfl | assumption) ?_
        | refine T_iconst (v := (nI 2)) (pc1 := 46) (pc := 45) k_M_plainly_45 rfl (by decide) ?_
        | refine T_aload_n (pc1 := 47) (pc := 46) k_M_plainly_46 rfl rfl ?_
        | refine T_aload_nN (pc1 := 47) (pc := 46) k_M_plainly_46 rfl rfl ?_
        | refine T_iload_n (pc1 := 48) (pc := 47) k_M_plainly_47 rfl rfl ?_
        | refine T_iconst (v := (nI 4)) (pc1 := 49) (pc := 48) k_M_plainly_48 rfl (by decide) ?_
        | (refine T_cV (As := [_, _]) (d1 := 1) (pc1 := 52) (pc := 49) k_M_plainly_49 rfl (by decide) (Nat.le_of_ble_eq_true rfl) rfl o_M_bitIs l_M_124 rfl (by first | exact ga G (by decide) rfl | assumption) rfl (c_M_bitIs G (by omega) (by omega) (by first | assumption | rfl) ?_) <;> try dsimp only [psh])
        | refine T_iastN (pc1 := 53) (pc := 52) k_M_plainly_52 rfl (by first | exact ga G (by decide) rfl | assumption) (by omega) (by omega) ?_
        | refine T_aload_n (pc1 := 54) (pc := 53) k_M_plainly_53 rfl rfl ?_
        | refine T_aload_nN (pc1 := 54) (pc := 53) k_M_plainly_53 rfl rfl ?_
        | refine T_iload_n (pc1 := 55) (pc := 54) k_M_plainly_54 rfl rfl ?_
        | refine T_iconst (v := (nI 1)) (pc1 := 59) (pc := 58) k_M_plainly_58 rfl (by decide) ?_
        | refine T_sipush (v := (nI 999)) (pc1 := 62) (pc := 59) k_M_plainly_59 rfl (by decide) ?_
        | (refine T_cS (As := [_, _, _]) (d1 := 1) (pc1 := 65) (pc := 62) k_M_plainly_62 rfl (by decide) (Nat.le_of_ble_eq_true rfl) rfl o_M_between l_M_130 rfl (c_M_between ?_) <;> try dsimp only [psh])
        | refine T_retI (pc := 65) k_M_plainly_65 rfl (by first | rfl | decide | assumption) ?_)
      dsimp only at kk
      rw [hm, nI_clamp (by omega)] at kk
      exact kk J (eqx_tr (eqx_pI (eqx_pI (eqx_pI eqx_rf _ (by decide)) _ (by decide)) _ (by decide)) (eqx_mono hJ (by decide)))
    · rw [pI_col (by decide), pI_col (by decide), pI_eq, hN]; rfl
    · rw [pI_col (by decide), pI_eq, hN]
    · rw [pI_eq, pI_row (by decide), pI_row (by decide), hN]; rfl
end M4
