/-! Strings; the model's tape and tokens. -/
section STR
variable {g : Geo} {I : IM} {K : Option Value → Geo → IM → Prop}
theorem str_len : ∀ j, j < 14 → Int32.ofNat (strs.getD j []).length >>> ((0 : Int32) &&& 31) = nI (strs.getD j []).length := by decide +kernel
theorem str_l6 : ∀ j, j < 14 → (strs.getD j []).length < 6 := by decide +kernel
theorem str_ch : ∀ j, j < 14 → ∀ x, x < 6 → ((((strs.getD j []).getD x 0) &&& nI 255).toUInt32 % 65536).toInt32 = (strs.getD j []).getD x 0 := by decide +kernel
theorem str_nw : ∀ j, j < 14 → ∀ x, x < 6 → ((strs.getD j []).getD x 0).toUInt32.toUInt16.toUInt32.toInt32 = (strs.getD j []).getD x 0 := by decide +kernel
theorem c_Js_coder {j : Nat} (hj : j < 14) (kk : K (some (.int 0)) g I) : Cl 1 M_Js_coder [.ref (1000000 + j)] g I K := by
  show Rl 1 M_Js_coder 0 [some (.ref (1000000 + j))] [] g I K
  repeat' (first
    | refine T_gsC (pc1 := 3) (pc := 0) k_Js_coder_0 rfl f_Js_38 ?_
    | (with_reducible refine T_if_eqN (tgt := 13) (pc1 := 6) (pc := 3) k_Js_coder_3 (by decide) (by decide) (by omega) (fun hc => ?_) (fun hc => ?_) <;> first | (exfalso; omega) | skip)
    | refine T_if_eq_t (tgt := 13) (pc := 3) k_Js_coder_3 rfl (by decide) ?_
    | refine T_if_eq_f (tgt := 13) (pc1 := 6) (pc := 3) k_Js_coder_3 rfl rfl (by decide) ?_
    | refine T_if_eq (tgt := 13) (pc1 := 6) (pc := 3) k_Js_coder_3 rfl rfl (fun hc => ?_) (fun hc => ?_)
    | refine T_aload_n (pc1 := 7) (pc := 6) k_Js_coder_6 rfl rfl ?_
    | refine T_aload_nN (pc1 := 7) (pc := 6) k_Js_coder_6 rfl rfl ?_
    | refine T_strC (pc1 := 10) (pc := 7) k_Js_coder_7 rfl f_Js_15 (by omega) ?_
    | refine T_goto (tgt := 14) (pc := 10) k_Js_coder_10 rfl ?_
    | refine T_iconst (v := (nI 1)) (pc1 := 14) (pc := 13) k_Js_coder_13 rfl (by decide) ?_
    | refine T_retI (pc := 14) k_Js_coder_14 rfl (by first | rfl | decide | assumption) ?_)
  exact kk
theorem c_Js_isLatin1 {j : Nat} (hj : j < 14) (kk : K (some (.int (nI 1))) g I) : Cl 1 M_Js_isLatin1 [.ref (1000000 + j)] g I K := by
  show Rl 1 M_Js_isLatin1 0 [some (.ref (1000000 + j))] [] g I K
  repeat' (first
    | refine T_gsC (pc1 := 3) (pc := 0) k_Js_isLatin1_0 rfl f_Js_38 ?_
    | (with_reducible refine T_if_eqN (tgt := 17) (pc1 := 6) (pc := 3) k_Js_isLatin1_3 (by decide) (by decide) (by omega) (fun hc => ?_) (fun hc => ?_) <;> first | (exfalso; omega) | skip)
    | refine T_if_eq_t (tgt := 17) (pc := 3) k_Js_isLatin1_3 rfl (by decide) ?_
    | refine T_if_eq_f (tgt := 17) (pc1 := 6) (pc := 3) k_Js_isLatin1_3 rfl rfl (by decide) ?_
    | refine T_if_eq (tgt := 17) (pc1 := 6) (pc := 3) k_Js_isLatin1_3 rfl rfl (fun hc => ?_) (fun hc => ?_)
    | refine T_aload_n (pc1 := 7) (pc := 6) k_Js_isLatin1_6 rfl rfl ?_
    | refine T_aload_nN (pc1 := 7) (pc := 6) k_Js_isLatin1_6 rfl rfl ?_
    | refine T_strC (pc1 := 10) (pc := 7) k_Js_isLatin1_7 rfl f_Js_15 (by omega) ?_
    | (with_reducible refine T_if_neN (tgt := 17) (pc1 := 13) (pc := 10) k_Js_isLatin1_10 (by decide) (by decide) (by omega) (fun hc => ?_) (fun hc => ?_) <;> first | (exfalso; omega) | skip)
    | refine T_if_ne_t (tgt := 17) (pc := 10) k_Js_isLatin1_10 rfl (by decide) ?_
    | refine T_if_ne_f (tgt := 17) (pc1 := 13) (pc := 10) k_Js_isLatin1_10 rfl rfl (by decide) ?_
    | refine T_if_ne (tgt := 17) (pc1 := 13) (pc := 10) k_Js_isLatin1_10 rfl rfl (fun hc => ?_) (fun hc => ?_)
    | refine T_iconst (v := (nI 1)) (pc1 := 14) (pc := 13) k_Js_isLatin1_13 rfl (by decide) ?_
    | refine T_goto (tgt := 18) (pc := 14) k_Js_isLatin1_14 rfl ?_
    | refine T_iconst (v := (nI 0)) (pc1 := 18) (pc := 17) k_Js_isLatin1_17 rfl (by decide) ?_
    | refine T_retI (pc := 18) k_Js_isLatin1_18 rfl (by first | rfl | decide | assumption) ?_)
  exact kk
theorem c_Js_length {j : Nat} (hj : j < 14) (kk : K (some (.int (nI (strs.getD j []).length))) g I) : Cl 2 M_Js_length [.ref (1000000 + j)] g I K := by
  show Rl 2 M_Js_length 0 [some (.ref (1000000 + j))] [] g I K
  repeat' (first
    | refine T_aload_n (pc1 := 1) (pc := 0) k_Js_length_0 rfl rfl ?_
    | refine T_aload_nN (pc1 := 1) (pc := 0) k_Js_length_0 rfl rfl ?_
    | refine T_strV (pc1 := 4) (pc := 1) k_Js_length_1 rfl f_Js_9 (by omega) ?_
    | refine T_blen (pc1 := 5) (pc := 4) k_Js_length_4 rfl (by omega) ?_
    | refine T_sclen (pc1 := 5) (pc := 4) k_Js_length_4 rfl ?_
    | refine T_alen (pc1 := 5) (pc := 4) k_Js_length_4 rfl (by decide) (by first | exact ga G (by decide) rfl | assumption) ?_
    | refine T_aload_n (pc1 := 6) (pc := 5) k_Js_length_5 rfl rfl ?_
    | refine T_aload_nN (pc1 := 6) (pc := 5) k_Js_length_5 rfl rfl ?_
    | (refine T_cT (As := []) (d1 := 1) (pc1 := 9) (pc := 6) k_Js_length_6 rfl (by decide) (Nat.le_of_ble_eq_true rfl) rfl o_Js_coder l_Js_335 (by omega) rfl (c_Js_coder (by omega) ?_) <;> try dsimp only [psh])
    | refine T_ishr (pc1 := 10) (pc := 9) k_Js_length_9 rfl ?_
    | refine T_retI (pc := 10) k_Js_length_10 rfl (by first | rfl | decide | assumption) ?_)
  rw [str_len j hj]
  exact kk
theorem c_Jp_checkIndex {x l : Nat} {v : Value} (hx : x < l) (hl : l < 100) (kk : K (some (.int (nI x))) g I) : Cl 1 M_Jp_checkIndex [.int (nI x), .int (nI l), v] g I K := by
  show Rl 1 M_Jp_checkIndex 0 [some (.int (nI x)), some (.int (nI l)), some v] [] g I K
  repeat' (first
    | refine T_iload_n (pc1 := 1) (pc := 0) k_Jp_checkIndex_0 rfl rfl ?_
    | (with_reducible refine T_if_ltN (tgt := 9) (pc1 := 4) (pc := 1) k_Jp_checkIndex_1 (by decide) (by decide) (by omega) ?_ <;> first | (exfalso; omega) | skip)
    | refine T_if_lt_t (tgt := 9) (pc := 1) k_Jp_checkIndex_1 rfl (by decide) ?_
    | refine T_if_lt_f (tgt := 9) (pc1 := 4) (pc := 1) k_Jp_checkIndex_1 rfl rfl (by decide) ?_
    | refine T_if_lt (tgt := 9) (pc1 := 4) (pc := 1) k_Jp_checkIndex_1 rfl rfl (fun hc => ?_) (fun hc => ?_)
    | refine T_iload_n (pc1 := 5) (pc := 4) k_Jp_checkIndex_4 rfl rfl ?_
    | refine T_iload_n (pc1 := 6) (pc := 5) k_Jp_checkIndex_5 rfl rfl ?_
    | (with_reducible refine T_icmp_ltN (tgt := 16) (pc1 := 9) (pc := 6) k_Jp_checkIndex_6 (by decide) (by decide) (by omega) (by omega) (fun hc => ?_) (fun hc => ?_) <;> first | (exfalso; omega) | skip)
    | refine T_icmp_lt_t (tgt := 16) (pc := 6) k_Jp_checkIndex_6 rfl (by decide) ?_
    | refine T_icmp_lt_f (tgt := 16) (pc1 := 9) (pc := 6) k_Jp_checkIndex_6 rfl rfl (by decide) ?_
    | refine T_icmp_lt (tgt := 16) (pc1 := 9) (pc := 6) k_Jp_checkIndex_6 rfl rfl (fun hc => ?_) (fun hc => ?_)
    | refine T_aload_n (pc1 := 10) (pc := 9) k_Jp_checkIndex_9 rfl rfl ?_
    | refine T_aload_nN (pc1 := 10) (pc := 9) k_Jp_checkIndex_9 rfl rfl ?_
    | refine T_iload_n (pc1 := 11) (pc := 10) k_Jp_checkIndex_10 rfl rfl ?_
    | refine T_iload_n (pc1 := 12) (pc := 11) k_Jp_checkIndex_11 rfl rfl ?_
    | refine T_iload_n (pc1 := 17) (pc := 16) k_Jp_checkIndex_16 rfl rfl ?_
    | refine T_retI (pc := 17) k_Jp_checkIndex_17 rfl (by first | rfl | decide | assumption) ?_)
  exact kk
theorem c_Js_checkIndex {x l : Nat} (hF : g.1.2.2.category = 1) (hx : x < l) (hl : l < 100) (kk : K none g I) : Cl 2 M_Js_checkIndex [.int (nI x), .int (nI l)] g I K := by
  show Rl 2 M_Js_checkIndex 0 [some (.int (nI x)), some (.int (nI l))] [] g I K
  refine T_iload_n (pc1 := 1) (pc := 0) k_Js_checkIndex_0 rfl rfl ?_
  refine T_iload_n (pc1 := 2) (pc := 1) k_Js_checkIndex_1 rfl rfl ?_
  refine T_gsF (pc1 := 5) (pc := 2) k_Js_checkIndex_2 rfl f_Js_1053 ?_
  refine T_cS (As := [_, _, _]) (d1 := 1) (pc1 := 8) (pc := 5) k_Js_checkIndex_5 rfl (by decide) (Nat.le_of_ble_eq_true rfl) (by unfold okA; rw [List.all_cons, List.all_cons, List.all_cons, hF]; rfl) o_Jp_checkIndex l_Js_1059 rfl (c_Jp_checkIndex hx hl ?_)
  dsimp only [psh]
  repeat' (first
    | refine T_iload_n (pc1 := 1) (pc := 0) k_Js_checkIndex_0 rfl rfl ?_
    | refine T_iload_n (pc1 := 2) (pc := 1) k_Js_checkIndex_1 rfl rfl ?_
    | refine T_gsF (pc1 := 5) (pc := 2) k_Js_checkIndex_2 rfl f_Js_1053 ?_
    | refine T_pop (pc1 := 9) (pc := 8) k_Js_checkIndex_8 rfl rfl ?_
    | refine T_retV (pc := 9) k_Js_checkIndex_9 rfl ?_)
  exact kk
theorem c_Jl_charAt {j x : Nat} (hF : g.1.2.2.category = 1) (hj : j < 14) (hx : x < (strs.getD j []).length) (kk : K (some (.int ((strs.getD j []).getD x 0))) g I) : Cl 3 M_Jl_charAt [.ref (1000100 + j), .int (nI x)] g I K := by
  show Rl 3 M_Jl_charAt 0 [some (.ref (1000100 + j)), some (.int (nI x))] [] g I K
  have h6 := str_l6 j hj
  have hin := vp_in_nI hx (by omega)
  have ec : (nI x).toNatClampNeg = x := nI_clamp (by omega)
  repeat' (first
    | refine T_iload_n (pc1 := 1) (pc := 0) k_Jl_charAt_0 rfl rfl ?_
    | refine T_aload_n (pc1 := 2) (pc := 1) k_Jl_charAt_1 rfl rfl ?_
    | refine T_aload_nN (pc1 := 2) (pc := 1) k_Jl_charAt_1 rfl rfl ?_
    | refine T_blen (pc1 := 3) (pc := 2) k_Jl_charAt_2 rfl (by omega) ?_
    | refine T_sclen (pc1 := 3) (pc := 2) k_Jl_charAt_2 rfl ?_
    | refine T_alen (pc1 := 3) (pc := 2) k_Jl_charAt_2 rfl (by decide) (by first | exact ga G (by decide) rfl | assumption) ?_
    | (refine T_cS (As := [_, _]) (d1 := 2) (pc1 := 6) (pc := 3) k_Jl_charAt_3 rfl (by decide) (Nat.le_of_ble_eq_true rfl) rfl o_Js_checkIndex l_Jl_9 rfl (c_Js_checkIndex hF hx (by omega) ?_) <;> try dsimp only [psh])
    | refine T_aload_n (pc1 := 7) (pc := 6) k_Jl_charAt_6 rfl rfl ?_
    | refine T_aload_nN (pc1 := 7) (pc := 6) k_Jl_charAt_6 rfl rfl ?_
    | refine T_iload_n (pc1 := 8) (pc := 7) k_Jl_charAt_7 rfl rfl ?_
    | refine T_bald (pc1 := 9) (pc := 8) k_Jl_charAt_8 rfl (by omega) (by assumption) ?_
    | refine T_sipush (v := (nI 255)) (pc1 := 12) (pc := 9) k_Jl_charAt_9 rfl (by decide) ?_
    | refine T_iand (pc1 := 13) (pc := 12) k_Jl_charAt_12 rfl ?_
    | refine T_i2c (pc1 := 14) (pc := 13) k_Jl_charAt_13 rfl ?_)
  rw [ec, str_ch j hj x (by omega)]
  refine T_retI (pc := 14) k_Jl_charAt_14 rfl ?_ kk
  show Value.int ((strs.getD j []).getD x 0).toUInt32.toUInt16.toUInt32.toInt32 = _
  rw [str_nw j hj x (by omega)]
theorem c_Js_charAt {j x : Nat} (hF : g.1.2.2.category = 1) (hj : j < 14) (hx : x < (strs.getD j []).length) (kk : K (some (.int ((strs.getD j []).getD x 0))) g I) : Cl 4 M_Js_charAt [.ref (1000000 + j), .int (nI x)] g I K := by
  show Rl 4 M_Js_charAt 0 [some (.ref (1000000 + j)), some (.int (nI x))] [] g I K
  have h6 := str_l6 j hj
  repeat' (first
    | refine T_aload_n (pc1 := 1) (pc := 0) k_Js_charAt_0 rfl rfl ?_
    | refine T_aload_nN (pc1 := 1) (pc := 0) k_Js_charAt_0 rfl rfl ?_
    | (refine T_cT (As := []) (d1 := 1) (pc1 := 4) (pc := 1) k_Js_charAt_1 rfl (by decide) (Nat.le_of_ble_eq_true rfl) rfl o_Js_isLatin1 l_Js_492 (by omega) rfl (c_Js_isLatin1 (by omega) ?_) <;> try dsimp only [psh])
    | (with_reducible refine T_if_eqN (tgt := 16) (pc1 := 7) (pc := 4) k_Js_charAt_4 (by decide) (by decide) (by omega) (fun hc => ?_) (fun hc => ?_) <;> first | (exfalso; omega) | skip)
    | refine T_if_eq_t (tgt := 16) (pc := 4) k_Js_charAt_4 rfl (by decide) ?_
    | refine T_if_eq_f (tgt := 16) (pc1 := 7) (pc := 4) k_Js_charAt_4 rfl rfl (by decide) ?_
    | refine T_if_eq (tgt := 16) (pc1 := 7) (pc := 4) k_Js_charAt_4 rfl rfl (fun hc => ?_) (fun hc => ?_)
    | refine T_aload_n (pc1 := 8) (pc := 7) k_Js_charAt_7 rfl rfl ?_
    | refine T_aload_nN (pc1 := 8) (pc := 7) k_Js_charAt_7 rfl rfl ?_
    | refine T_strV (pc1 := 11) (pc := 8) k_Js_charAt_8 rfl f_Js_9 (by omega) ?_
    | refine T_iload_n (pc1 := 12) (pc := 11) k_Js_charAt_11 rfl rfl ?_
    | (refine T_cS (As := [_, _]) (d1 := 3) (pc1 := 15) (pc := 12) k_Js_charAt_12 rfl (by decide) (Nat.le_of_ble_eq_true rfl) rfl o_Jl_charAt l_Js_495 rfl (c_Jl_charAt hF (by omega) hx ?_) <;> try dsimp only [psh])
    | refine T_aload_n (pc1 := 17) (pc := 16) k_Js_charAt_16 rfl rfl ?_
    | refine T_aload_nN (pc1 := 17) (pc := 16) k_Js_charAt_16 rfl rfl ?_
    | refine T_strV (pc1 := 20) (pc := 17) k_Js_charAt_17 rfl f_Js_9 (by omega) ?_
    | refine T_iload_n (pc1 := 21) (pc := 20) k_Js_charAt_20 rfl rfl ?_
    | refine T_retI (pc := 24) k_Js_charAt_24 rfl (by first | rfl | decide | assumption) ?_)
  refine T_retI (pc := 15) k_Js_charAt_15 rfl ?_ kk
  show Value.int ((strs.getD j []).getD x 0).toUInt32.toUInt16.toUInt32.toInt32 = _
  rw [str_nw j hj x (by omega)]
end STR
section M21
variable {g : Geo} {I : IM} {K : Option Value → Geo → IM → Prop}
theorem c_M_byteAt {T : Row} {z k : Nat} (G : GeoOK g) (hT : I 108 = T) (hz : I 101 8 = nI z) (h96 : z ≤ 96) (hk : k ≤ 1000) (kk : K (some (.int (byA T z k))) g I) : Cl 1 M_M_byteAt [.ref 101, .int (nI k)] g I K := by
  show Rl 1 M_M_byteAt 0 [some (.ref 101), some (.int (nI k))] [] g I K
  unfold byA at kk
  have e : I 108 k = T k := by rw [hT]
  repeat' (first
    | refine T_iload_n (pc1 := 1) (pc := 0) k_M_byteAt_0 rfl rfl ?_
    | refine T_aload_n (pc1 := 2) (pc := 1) k_M_byteAt_1 rfl rfl ?_
    | refine T_aload_nN (pc1 := 2) (pc := 1) k_M_byteAt_1 rfl rfl ?_
    | refine T_getV (pc1 := 5) (pc := 2) k_M_byteAt_2 rfl f_M_200 rfl (by first | exact ga G (by decide) rfl | assumption) (by first | assumption | (simp (disch := omega) only [pI_eq, pI_row, pI_col, va_up_self, va_up_ne, ne_eq, not_false_eq_true] <;> rfl) | rfl) ?_
    | (with_reducible refine T_icmp_geN (tgt := 17) (pc1 := 8) (pc := 5) k_M_byteAt_5 (by decide) (by decide) (by omega) (by omega) (fun hc => ?_) (fun hc => ?_) <;> first | (exfalso; omega) | skip)
    | refine T_icmp_ge_t (tgt := 17) (pc := 5) k_M_byteAt_5 rfl (by decide) ?_
    | refine T_icmp_ge_f (tgt := 17) (pc1 := 8) (pc := 5) k_M_byteAt_5 rfl rfl (by decide) ?_
    | refine T_icmp_ge (tgt := 17) (pc1 := 8) (pc := 5) k_M_byteAt_5 rfl rfl (fun hc => ?_) (fun hc => ?_)
    | refine T_aload_n (pc1 := 9) (pc := 8) k_M_byteAt_8 rfl rfl ?_
    | refine T_aload_nN (pc1 := 9) (pc := 8) k_M_byteAt_8 rfl rfl ?_
    | refine T_getR (pc1 := 12) (pc := 9) k_M_byteAt_9 rfl f_M_28 rfl (by first | exact ga G (by decide) rfl | assumption) (by first | exact gr G (by decide) rfl | assumption) ?_
    | refine T_iload_n (pc1 := 13) (pc := 12) k_M_byteAt_12 rfl rfl ?_
    | refine T_ialdN (pc1 := 14) (pc := 13) k_M_byteAt_13 rfl (by first | exact ga G (by decide) rfl | assumption) (by omega) (by omega) (by first | assumption | (simp (disch := omega) only [pI_eq, pI_row, pI_col, va_up_self, va_up_ne, ne_eq, not_false_eq_true] <;> rfl) | rfl) ?_
    | refine T_iald (pc1 := 14) (pc := 13) k_M_byteAt_13 rfl (by first | exact ga G (by decide) rfl | assumption) (by assumption) ?_
    | refine T_goto (tgt := 18) (pc := 14) k_M_byteAt_14 rfl ?_
    | refine T_iconst (v := (-1)) (pc1 := 18) (pc := 17) k_M_byteAt_17 rfl (by decide) ?_
    | refine T_retI (pc := 18) k_M_byteAt_18 rfl (by first | rfl | decide | assumption) ?_)
  · rw [if_neg (by omega)] at kk
    exact kk
  · rw [if_pos (by omega)] at kk
    exact kk
theorem c_M_sortOf {v : Int32} (kk : K (some (.int (nI (sOf v)))) g I) : Cl 2 M_M_sortOf [.int v] g I K := by
  show Rl 2 M_M_sortOf 0 [some (.int v)] [] g I K
  have e0 : (0 : Int32).toInt = 0 := rfl
  have e97 : (nI 97).toInt = 97 := rfl
  have e122 : (nI 122).toInt = 122 := rfl
  have e48 : (nI 48).toInt = 48 := rfl
  have e57 : (nI 57).toInt = 57 := rfl
  unfold sOf at kk
  repeat' (first
    | refine T_iload_n (pc1 := 1) (pc := 0) k_M_sortOf_0 rfl rfl ?_
    | (with_reducible refine T_if_geN (tgt := 8) (pc1 := 4) (pc := 1) k_M_sortOf_1 (by decide) (by decide) (by omega) ?_ <;> first | (exfalso; omega) | skip)
    | refine T_if_ge_t (tgt := 8) (pc := 1) k_M_sortOf_1 rfl (by decide) ?_
    | refine T_if_ge_f (tgt := 8) (pc1 := 4) (pc := 1) k_M_sortOf_1 rfl rfl (by decide) ?_
    | refine T_if_ge (tgt := 8) (pc1 := 4) (pc := 1) k_M_sortOf_1 rfl rfl (fun hc => ?_) (fun hc => ?_)
    | refine T_iconst (v := (nI 0)) (pc1 := 5) (pc := 4) k_M_sortOf_4 rfl (by decide) ?_
    | refine T_goto (tgt := 39) (pc := 5) k_M_sortOf_5 rfl ?_
    | refine T_iload_n (pc1 := 9) (pc := 8) k_M_sortOf_8 rfl rfl ?_
    | refine T_bipush (v := (nI 97)) (pc1 := 11) (pc := 9) k_M_sortOf_9 rfl (by decide) ?_
    | refine T_bipush (v := (nI 122)) (pc1 := 13) (pc := 11) k_M_sortOf_11 rfl (by decide) ?_
    | (refine T_cS (As := [_, _, _]) (d1 := 1) (pc1 := 16) (pc := 13) k_M_sortOf_13 rfl (by decide) (Nat.le_of_ble_eq_true rfl) rfl o_M_within l_M_95 rfl (c_M_within (fun hw => ?_) (fun hw => ?_)) <;> try dsimp only [psh])
    | (with_reducible refine T_if_eqN (tgt := 23) (pc1 := 19) (pc := 16) k_M_sortOf_16 (by decide) (by decide) (by omega) (fun hc => ?_) (fun hc => ?_) <;> first | (exfalso; omega) | skip)
    | refine T_if_eq_t (tgt := 23) (pc := 16) k_M_sortOf_16 rfl (by decide) ?_
    | refine T_if_eq_f (tgt := 23) (pc1 := 19) (pc := 16) k_M_sortOf_16 rfl rfl (by decide) ?_
    | refine T_if_eq (tgt := 23) (pc1 := 19) (pc := 16) k_M_sortOf_16 rfl rfl (fun hc => ?_) (fun hc => ?_)
    | refine T_iconst (v := (nI 1)) (pc1 := 20) (pc := 19) k_M_sortOf_19 rfl (by decide) ?_
    | refine T_goto (tgt := 39) (pc := 20) k_M_sortOf_20 rfl ?_
    | refine T_iload_n (pc1 := 24) (pc := 23) k_M_sortOf_23 rfl rfl ?_
    | refine T_bipush (v := (nI 48)) (pc1 := 26) (pc := 24) k_M_sortOf_24 rfl (by decide) ?_
    | refine T_bipush (v := (nI 57)) (pc1 := 28) (pc := 26) k_M_sortOf_26 rfl (by decide) ?_
    | (refine T_cS (As := [_, _, _]) (d1 := 1) (pc1 := 31) (pc := 28) k_M_sortOf_28 rfl (by decide) (Nat.le_of_ble_eq_true rfl) rfl o_M_within l_M_95 rfl (c_M_within (fun hw => ?_) (fun hw => ?_)) <;> try dsimp only [psh])
    | (with_reducible refine T_if_eqN (tgt := 38) (pc1 := 34) (pc := 31) k_M_sortOf_31 (by decide) (by decide) (by omega) (fun hc => ?_) (fun hc => ?_) <;> first | (exfalso; omega) | skip)
    | refine T_if_eq_t (tgt := 38) (pc := 31) k_M_sortOf_31 rfl (by decide) ?_
    | refine T_if_eq_f (tgt := 38) (pc1 := 34) (pc := 31) k_M_sortOf_31 rfl rfl (by decide) ?_
    | refine T_if_eq (tgt := 38) (pc1 := 34) (pc := 31) k_M_sortOf_31 rfl rfl (fun hc => ?_) (fun hc => ?_)
    | refine T_iconst (v := (nI 2)) (pc1 := 35) (pc := 34) k_M_sortOf_34 rfl (by decide) ?_
    | refine T_goto (tgt := 39) (pc := 35) k_M_sortOf_35 rfl ?_
    | refine T_iconst (v := (nI 3)) (pc1 := 39) (pc := 38) k_M_sortOf_38 rfl (by decide) ?_
    | refine T_retI (pc := 39) k_M_sortOf_39 rfl (by first | rfl | decide | assumption) ?_)
  · rw [if_neg (by rw [le_toInt] at *; omega), if_pos (by omega)] at kk
    exact kk
  · rw [if_neg (by rw [le_toInt] at *; omega), if_neg (by omega), if_pos (by omega)] at kk
    exact kk
  · rw [if_neg (by rw [le_toInt] at *; omega), if_neg (by omega), if_neg (by omega)] at kk
    exact kk
  · rw [if_pos (by rw [le_toInt] at *; omega)] at kk
    exact kk
theorem c_M_isRow {so : Nat} (hs : so < 10) (kt : isr so → K (some (.int (nI 1))) g I) (kf : ¬ isr so → K (some (.int (nI 0))) g I) : Cl 1 M_M_isRow [.int (nI so)] g I K := by
  show Rl 1 M_M_isRow 0 [some (.int (nI so))] [] g I K
  repeat' (first
    | refine T_iload_n (pc1 := 1) (pc := 0) k_M_isRow_0 rfl rfl ?_
    | refine T_iconst (v := (nI 1)) (pc1 := 2) (pc := 1) k_M_isRow_1 rfl (by decide) ?_
    | (with_reducible refine T_icmp_eqN (tgt := 10) (pc1 := 5) (pc := 2) k_M_isRow_2 (by decide) (by decide) (by omega) (by omega) (fun hc => ?_) (fun hc => ?_) <;> first | (exfalso; omega) | skip)
    | refine T_icmp_eq_t (tgt := 10) (pc := 2) k_M_isRow_2 rfl (by decide) ?_
    | refine T_icmp_eq_f (tgt := 10) (pc1 := 5) (pc := 2) k_M_isRow_2 rfl rfl (by decide) ?_
    | refine T_icmp_eq (tgt := 10) (pc1 := 5) (pc := 2) k_M_isRow_2 rfl rfl (fun hc => ?_) (fun hc => ?_)
    | refine T_iload_n (pc1 := 6) (pc := 5) k_M_isRow_5 rfl rfl ?_
    | refine T_iconst (v := (nI 2)) (pc1 := 7) (pc := 6) k_M_isRow_6 rfl (by decide) ?_
    | (with_reducible refine T_icmp_neN (tgt := 14) (pc1 := 10) (pc := 7) k_M_isRow_7 (by decide) (by decide) (by omega) (by omega) (fun hc => ?_) (fun hc => ?_) <;> first | (exfalso; omega) | skip)
    | refine T_icmp_ne_t (tgt := 14) (pc := 7) k_M_isRow_7 rfl (by decide) ?_
    | refine T_icmp_ne_f (tgt := 14) (pc1 := 10) (pc := 7) k_M_isRow_7 rfl rfl (by decide) ?_
    | refine T_icmp_ne (tgt := 14) (pc1 := 10) (pc := 7) k_M_isRow_7 rfl rfl (fun hc => ?_) (fun hc => ?_)
    | refine T_iconst (v := (nI 1)) (pc1 := 11) (pc := 10) k_M_isRow_10 rfl (by decide) ?_
    | refine T_goto (tgt := 15) (pc := 11) k_M_isRow_11 rfl ?_
    | refine T_iconst (v := (nI 0)) (pc1 := 15) (pc := 14) k_M_isRow_14 rfl (by decide) ?_
    | refine T_retI (pc := 15) k_M_isRow_15 rfl (by first | rfl | decide | assumption) ?_)
  all_goals first | exact kt (by omega) | exact kf (by omega)
set_option maxHeartbeats 4000000 in
theorem c_M_next {T : Row} {z e so : Nat} (G : GeoOK g) (hT : I 108 = T) (hz : I 101 8 = nI z) (okt : okTp T z) (he : I 101 12 = nI e) (hez : e ≤ z) (hso : I 101 13 = nI so) (hs4 : so ≤ 4) (kk : ∀ J, eqx [101] I J → (∀ k, k ≠ 11 → k ≠ 12 → k ≠ 13 → J 101 k = I 101 k) → J 101 11 = nI (tkS T z e) → J 101 12 = nI (tkE T z (tkS T z e)) → J 101 13 = nI (tkO T z e so) → K none g J) : Cl 3 M_M_next [.ref 101] g I K := by
  show Rl 3 M_M_next 0 [some (.ref 101), none, none] [] g I K
  have h96 := okt.1
  have hsb := skp_b (T := T) (z - e) e
  have es : skp T (z - e) e = tkS T z e := rfl
  rw [es] at hsb
  have h3 := srt_le T z (tkS T z e)
  have h0 := srt_0 (k := tkS T z e) okt
  -- the end
  have fin : ∀ en tight (J : IM), eqx [101] I J → (∀ k, k ≠ 11 → k ≠ 12 → k ≠ 13 → J 101 k = I 101 k) → J 101 11 = nI (tkS T z e) → J 101 12 = nI en → J 101 13 = nI (srt T z (tkS T z e)) → en = tkE T z (tkS T z e) → tight = nI (if tkS T z e = e ∧ isr so then 1 else 0) → Rl 3 M_M_next 143 [some (.ref 101), some (.int (nI so)), some (.int tight)] [] g J K := by
    intro en tight J hJ hk h11 h12 h13 hen htg
    subst hen
    subst htg
    have fin2 : ∀ v, v = tkO T z e so → K none g (pI J 101 13 (nI v)) := by
      intro v hv
      subst hv
      exact kk _ (eqx_pI hJ _ (by decide)) (fun k a b c => by rw [pI_col c]; exact hk k a b c) (by rw [pI_col (by decide)]; exact h11) (by rw [pI_col (by decide)]; exact h12) pI_eq
    by_cases c1 : tkS T z e = e ∧ isr so
    · rw [if_pos c1]
      repeat' (first
        | refine T_aload_n (pc1 := 144) (pc := 143) k_M_next_143 rfl rfl ?_
        | refine T_aload_nN (pc1 := 144) (pc := 143) k_M_next_143 rfl rfl ?_
        | refine T_iload_n (pc1 := 145) (pc := 144) k_M_next_144 rfl rfl ?_
        | (with_reducible refine T_if_eqN (tgt := 162) (pc1 := 148) (pc := 145) k_M_next_145 (by decide) (by decide) (by omega) (fun hc => ?_) (fun hc => ?_) <;> first | (exfalso; omega) | skip)
        | refine T_if_eq_t (tgt := 162) (pc := 145) k_M_next_145 rfl (by decide) ?_
        | refine T_if_eq_f (tgt := 162) (pc1 := 148) (pc := 145) k_M_next_145 rfl rfl (by decide) ?_
        | refine T_if_eq (tgt := 162) (pc1 := 148) (pc := 145) k_M_next_145 rfl rfl (fun hc => ?_) (fun hc => ?_)
        | refine T_aload_n (pc1 := 149) (pc := 148) k_M_next_148 rfl rfl ?_
        | refine T_aload_nN (pc1 := 149) (pc := 148) k_M_next_148 rfl rfl ?_
        | refine T_getV (pc1 := 152) (pc := 149) k_M_next_149 rfl f_M_207 rfl (by first | exact ga G (by decide) rfl | assumption) (by first | assumption | (simp (disch := omega) only [pI_eq, pI_row, pI_col, va_up_self, va_up_ne, ne_eq, not_false_eq_true] <;> rfl) | rfl) ?_
        | (refine T_cS (As := [_]) (d1 := 1) (pc1 := 155) (pc := 152) k_M_next_152 rfl (by decide) (Nat.le_of_ble_eq_true rfl) rfl o_M_isRow l_M_219 rfl (c_M_isRow (by omega) (fun hr => ?_) (fun hr => ?_)) <;> try dsimp only [psh])
        | (with_reducible refine T_if_eqN (tgt := 162) (pc1 := 158) (pc := 155) k_M_next_155 (by decide) (by decide) (by omega) (fun hc => ?_) (fun hc => ?_) <;> first | (exfalso; omega) | skip)
        | refine T_if_eq_t (tgt := 162) (pc := 155) k_M_next_155 rfl (by decide) ?_
        | refine T_if_eq_f (tgt := 162) (pc1 := 158) (pc := 155) k_M_next_155 rfl rfl (by decide) ?_
        | refine T_if_eq (tgt := 162) (pc1 := 158) (pc := 155) k_M_next_155 rfl rfl (fun hc => ?_) (fun hc => ?_)
        | refine T_iconst (v := (nI 4)) (pc1 := 159) (pc := 158) k_M_next_158 rfl (by decide) ?_
        | refine T_goto (tgt := 166) (pc := 159) k_M_next_159 rfl ?_
        | refine T_aload_n (pc1 := 163) (pc := 162) k_M_next_162 rfl rfl ?_
        | refine T_aload_nN (pc1 := 163) (pc := 162) k_M_next_162 rfl rfl ?_
        | refine T_getV (pc1 := 166) (pc := 163) k_M_next_163 rfl f_M_207 rfl (by first | exact ga G (by decide) rfl | assumption) (by first | assumption | (simp (disch := omega) only [pI_eq, pI_row, pI_col, va_up_self, va_up_ne, ne_eq, not_false_eq_true] <;> rfl) | rfl) ?_
        | refine T_putI (pc1 := 169) (pc := 166) k_M_next_166 rfl f_M_207 rfl (by first | exact ga G (by decide) rfl | assumption) (by first | rfl | decide | assumption) (by first | rfl | decide | assumption) ?_
        | refine T_retV (pc := 169) k_M_next_169 rfl ?_)
      · exact fin2 _ (by rw [tkO, if_pos ⟨c1, hr⟩])
      · exact fin2 _ (by rw [tkO, if_neg (fun q => hr q.2)])
    · rw [if_neg c1]
      repeat' (first
        | refine T_aload_n (pc1 := 144) (pc := 143) k_M_next_143 rfl rfl ?_
        | refine T_aload_nN (pc1 := 144) (pc := 143) k_M_next_143 rfl rfl ?_
        | refine T_iload_n (pc1 := 145) (pc := 144) k_M_next_144 rfl rfl ?_
        | (with_reducible refine T_if_eqN (tgt := 162) (pc1 := 148) (pc := 145) k_M_next_145 (by decide) (by decide) (by omega) (fun hc => ?_) (fun hc => ?_) <;> first | (exfalso; omega) | skip)
        | refine T_if_eq_t (tgt := 162) (pc := 145) k_M_next_145 rfl (by decide) ?_
        | refine T_if_eq_f (tgt := 162) (pc1 := 148) (pc := 145) k_M_next_145 rfl rfl (by decide) ?_
        | refine T_if_eq (tgt := 162) (pc1 := 148) (pc := 145) k_M_next_145 rfl rfl (fun hc => ?_) (fun hc => ?_)
        | refine T_aload_n (pc1 := 149) (pc := 148) k_M_next_148 rfl rfl ?_
        | refine T_aload_nN (pc1 := 149) (pc := 148) k_M_next_148 rfl rfl ?_
        | refine T_getV (pc1 := 152) (pc := 149) k_M_next_149 rfl f_M_207 rfl (by first | exact ga G (by decide) rfl | assumption) (by first | assumption | (simp (disch := omega) only [pI_eq, pI_row, pI_col, va_up_self, va_up_ne, ne_eq, not_false_eq_true] <;> rfl) | rfl) ?_
        | (refine T_cS (As := [_]) (d1 := 1) (pc1 := 155) (pc := 152) k_M_next_152 rfl (by decide) (Nat.le_of_ble_eq_true rfl) rfl o_M_isRow l_M_219 rfl (c_M_isRow (by omega) (fun hr => ?_) (fun hr => ?_)) <;> try dsimp only [psh])
        | (with_reducible refine T_if_eqN (tgt := 162) (pc1 := 158) (pc := 155) k_M_next_155 (by decide) (by decide) (by omega) (fun hc => ?_) (fun hc => ?_) <;> first | (exfalso; omega) | skip)
        | refine T_if_eq_t (tgt := 162) (pc := 155) k_M_next_155 rfl (by decide) ?_
        | refine T_if_eq_f (tgt := 162) (pc1 := 158) (pc := 155) k_M_next_155 rfl rfl (by decide) ?_
        | refine T_if_eq (tgt := 162) (pc1 := 158) (pc := 155) k_M_next_155 rfl rfl (fun hc => ?_) (fun hc => ?_)
        | refine T_iconst (v := (nI 4)) (pc1 := 159) (pc := 158) k_M_next_158 rfl (by decide) ?_
        | refine T_goto (tgt := 166) (pc := 159) k_M_next_159 rfl ?_
        | refine T_aload_n (pc1 := 163) (pc := 162) k_M_next_162 rfl rfl ?_
        | refine T_aload_nN (pc1 := 163) (pc := 162) k_M_next_162 rfl rfl ?_
        | refine T_getV (pc1 := 166) (pc := 163) k_M_next_163 rfl f_M_207 rfl (by first | exact ga G (by decide) rfl | assumption) (by first | assumption | (simp (disch := omega) only [pI_eq, pI_row, pI_col, va_up_self, va_up_ne, ne_eq, not_false_eq_true] <;> rfl) | rfl) ?_
        | refine T_putI (pc1 := 169) (pc := 166) k_M_next_166 rfl f_M_207 rfl (by first | exact ga G (by decide) rfl | assumption) (by first | rfl | decide | assumption) (by first | rfl | decide | assumption) ?_
        | refine T_retV (pc := 169) k_M_next_169 rfl ?_)
      exact fin2 _ (by rw [tkO, if_neg (fun q => c1 q.1)])
  -- the run
  have run : ∀ f k tight (J : IM), k + f = z → isr (srt T z (tkS T z e)) → eqx [101] I J → (∀ k, k ≠ 11 → k ≠ 12 → k ≠ 13 → J 101 k = I 101 k) → J 101 11 = nI (tkS T z e) → J 101 12 = nI k → J 101 13 = nI (srt T z (tkS T z e)) → rn1 T z (srt T z (tkS T z e)) f k = tkE T z (tkS T z e) → tight = nI (if tkS T z e = e ∧ isr so then 1 else 0) → Rl 3 M_M_next 102 [some (.ref 101), some (.int (nI so)), some (.int tight)] [] g J K := by
    intro f
    induction f with
    | zero =>
      intro k tight J hkf hir hJ hk h11 h12 h13 hen htg
      have hk0 := (srt_0 (k := k) okt).mpr (by omega)
      repeat' (first
        | refine T_aload_n (pc1 := 103) (pc := 102) k_M_next_102 rfl rfl ?_
        | refine T_aload_nN (pc1 := 103) (pc := 102) k_M_next_102 rfl rfl ?_
        | refine T_getV (pc1 := 106) (pc := 103) k_M_next_103 rfl f_M_207 rfl (by first | exact ga G (by decide) rfl | assumption) (by first | assumption | (simp (disch := omega) only [pI_eq, pI_row, pI_col, va_up_self, va_up_ne, ne_eq, not_false_eq_true] <;> rfl) | rfl) ?_
        | (refine T_cS (As := [_]) (d1 := 1) (pc1 := 109) (pc := 106) k_M_next_106 rfl (by decide) (Nat.le_of_ble_eq_true rfl) rfl o_M_isRow l_M_219 rfl (c_M_isRow (by omega) (fun hr => ?_) (fun hr => ?_)) <;> try dsimp only [psh])
        | (with_reducible refine T_if_eqN (tgt := 143) (pc1 := 112) (pc := 109) k_M_next_109 (by decide) (by decide) (by omega) (fun hc => ?_) (fun hc => ?_) <;> first | (exfalso; omega) | skip)
        | refine T_if_eq_t (tgt := 143) (pc := 109) k_M_next_109 rfl (by decide) ?_
        | refine T_if_eq_f (tgt := 143) (pc1 := 112) (pc := 109) k_M_next_109 rfl rfl (by decide) ?_
        | refine T_if_eq (tgt := 143) (pc1 := 112) (pc := 109) k_M_next_109 rfl rfl (fun hc => ?_) (fun hc => ?_)
        | refine T_aload_n (pc1 := 113) (pc := 112) k_M_next_112 rfl rfl ?_
        | refine T_aload_nN (pc1 := 113) (pc := 112) k_M_next_112 rfl rfl ?_
        | refine T_aload_n (pc1 := 114) (pc := 113) k_M_next_113 rfl rfl ?_
        | refine T_aload_nN (pc1 := 114) (pc := 113) k_M_next_113 rfl rfl ?_
        | refine T_getV (pc1 := 117) (pc := 114) k_M_next_114 rfl f_M_210 rfl (by first | exact ga G (by decide) rfl | assumption) (by first | assumption | (simp (disch := omega) only [pI_eq, pI_row, pI_col, va_up_self, va_up_ne, ne_eq, not_false_eq_true] <;> rfl) | rfl) ?_
        | (refine T_cV (As := [_]) (d1 := 1) (pc1 := 120) (pc := 117) k_M_next_117 rfl (by decide) (Nat.le_of_ble_eq_true rfl) rfl o_M_byteAt l_M_216 rfl (by first | exact ga G (by decide) rfl | assumption) rfl (c_M_byteAt (T := T) (z := z) G ((hJ 108 (by decide)).trans hT) ((hk 8 (by decide) (by decide) (by decide)).trans hz) h96 (by omega) ?_) <;> try dsimp only [psh])
        | (refine T_cS (As := [_]) (d1 := 2) (pc1 := 123) (pc := 120) k_M_next_120 rfl (by decide) (Nat.le_of_ble_eq_true rfl) rfl o_M_sortOf l_M_222 rfl (c_M_sortOf ?_) <;> try dsimp only [psh]))
      all_goals try (exfalso; exact hr hir)
      have ek : sOf (byA T z k) = 0 := hk0
      rw [ek]
      repeat' (first
        | refine T_aload_n (pc1 := 124) (pc := 123) k_M_next_123 rfl rfl ?_
        | refine T_aload_nN (pc1 := 124) (pc := 123) k_M_next_123 rfl rfl ?_
        | refine T_getV (pc1 := 127) (pc := 124) k_M_next_124 rfl f_M_207 rfl (by first | exact ga G (by decide) rfl | assumption) (by first | assumption | (simp (disch := omega) only [pI_eq, pI_row, pI_col, va_up_self, va_up_ne, ne_eq, not_false_eq_true] <;> rfl) | rfl) ?_
        | (with_reducible refine T_icmp_neN (tgt := 143) (pc1 := 130) (pc := 127) k_M_next_127 (by decide) (by decide) (by omega) (by omega) (fun hc => ?_) (fun hc => ?_) <;> first | (exfalso; omega) | skip)
        | refine T_icmp_ne_t (tgt := 143) (pc := 127) k_M_next_127 rfl (by decide) ?_
        | refine T_icmp_ne_f (tgt := 143) (pc1 := 130) (pc := 127) k_M_next_127 rfl rfl (by decide) ?_
        | refine T_icmp_ne (tgt := 143) (pc1 := 130) (pc := 127) k_M_next_127 rfl rfl (fun hc => ?_) (fun hc => ?_)
        | refine T_aload_n (pc1 := 131) (pc := 130) k_M_next_130 rfl rfl ?_
        | refine T_aload_nN (pc1 := 131) (pc := 130) k_M_next_130 rfl rfl ?_
        | refine T_dup (pc1 := 132) (pc := 131) k_M_next_131 rfl rfl ?_
        | refine T_getV (pc1 := 135) (pc := 132) k_M_next_132 rfl f_M_210 rfl (by first | exact ga G (by decide) rfl | assumption) (by first | assumption | (simp (disch := omega) only [pI_eq, pI_row, pI_col, va_up_self, va_up_ne, ne_eq, not_false_eq_true] <;> rfl) | rfl) ?_
        | refine T_iconst (v := (nI 1)) (pc1 := 136) (pc := 135) k_M_next_135 rfl (by decide) ?_
        | with_reducible refine T_iaddN (pc1 := 137) (pc := 136) k_M_next_136 (by decide) ?_
        | refine T_iadd (pc1 := 137) (pc := 136) k_M_next_136 rfl ?_
        | refine T_putI (pc1 := 140) (pc := 137) k_M_next_137 rfl f_M_210 rfl (by first | exact ga G (by decide) rfl | assumption) (by first | rfl | decide | assumption) (by first | rfl | decide | assumption) ?_
        | refine T_goto (tgt := 102) (pc := 140) k_M_next_140 rfl ?_)
      all_goals first | exact fin k _ J hJ hk h11 h12 h13 hen htg | (exfalso; omega)
    | succ f ih =>
      intro k tight J hkf hir hJ hk h11 h12 h13 hen htg
      rw [rn1] at hen
      repeat' (first
        | refine T_aload_n (pc1 := 103) (pc := 102) k_M_next_102 rfl rfl ?_
        | refine T_aload_nN (pc1 := 103) (pc := 102) k_M_next_102 rfl rfl ?_
        | refine T_getV (pc1 := 106) (pc := 103) k_M_next_103 rfl f_M_207 rfl (by first | exact ga G (by decide) rfl | assumption) (by first | assumption | (simp (disch := omega) only [pI_eq, pI_row, pI_col, va_up_self, va_up_ne, ne_eq, not_false_eq_true] <;> rfl) | rfl) ?_
        | (refine T_cS (As := [_]) (d1 := 1) (pc1 := 109) (pc := 106) k_M_next_106 rfl (by decide) (Nat.le_of_ble_eq_true rfl) rfl o_M_isRow l_M_219 rfl (c_M_isRow (by omega) (fun hr => ?_) (fun hr => ?_)) <;> try dsimp only [psh])
        | (with_reducible refine T_if_eqN (tgt := 143) (pc1 := 112) (pc := 109) k_M_next_109 (by decide) (by decide) (by omega) (fun hc => ?_) (fun hc => ?_) <;> first | (exfalso; omega) | skip)
        | refine T_if_eq_t (tgt := 143) (pc := 109) k_M_next_109 rfl (by decide) ?_
        | refine T_if_eq_f (tgt := 143) (pc1 := 112) (pc := 109) k_M_next_109 rfl rfl (by decide) ?_
        | refine T_if_eq (tgt := 143) (pc1 := 112) (pc := 109) k_M_next_109 rfl rfl (fun hc => ?_) (fun hc => ?_)
        | refine T_aload_n (pc1 := 113) (pc := 112) k_M_next_112 rfl rfl ?_
        | refine T_aload_nN (pc1 := 113) (pc := 112) k_M_next_112 rfl rfl ?_
        | refine T_aload_n (pc1 := 114) (pc := 113) k_M_next_113 rfl rfl ?_
        | refine T_aload_nN (pc1 := 114) (pc := 113) k_M_next_113 rfl rfl ?_
        | refine T_getV (pc1 := 117) (pc := 114) k_M_next_114 rfl f_M_210 rfl (by first | exact ga G (by decide) rfl | assumption) (by first | assumption | (simp (disch := omega) only [pI_eq, pI_row, pI_col, va_up_self, va_up_ne, ne_eq, not_false_eq_true] <;> rfl) | rfl) ?_
        | (refine T_cV (As := [_]) (d1 := 1) (pc1 := 120) (pc := 117) k_M_next_117 rfl (by decide) (Nat.le_of_ble_eq_true rfl) rfl o_M_byteAt l_M_216 rfl (by first | exact ga G (by decide) rfl | assumption) rfl (c_M_byteAt (T := T) (z := z) G ((hJ 108 (by decide)).trans hT) ((hk 8 (by decide) (by decide) (by decide)).trans hz) h96 (by omega) ?_) <;> try dsimp only [psh])
        | (refine T_cS (As := [_]) (d1 := 2) (pc1 := 123) (pc := 120) k_M_next_120 rfl (by decide) (Nat.le_of_ble_eq_true rfl) rfl o_M_sortOf l_M_222 rfl (c_M_sortOf ?_) <;> try dsimp only [psh]))
      all_goals try (exfalso; exact hr hir)
      have ek : sOf (byA T z k) = srt T z k := rfl
      have hk3 := srt_le T z k
      rw [ek]
      repeat' (first
        | refine T_aload_n (pc1 := 124) (pc := 123) k_M_next_123 rfl rfl ?_
        | refine T_aload_nN (pc1 := 124) (pc := 123) k_M_next_123 rfl rfl ?_
        | refine T_getV (pc1 := 127) (pc := 124) k_M_next_124 rfl f_M_207 rfl (by first | exact ga G (by decide) rfl | assumption) (by first | assumption | (simp (disch := omega) only [pI_eq, pI_row, pI_col, va_up_self, va_up_ne, ne_eq, not_false_eq_true] <;> rfl) | rfl) ?_
        | (with_reducible refine T_icmp_neN (tgt := 143) (pc1 := 130) (pc := 127) k_M_next_127 (by decide) (by decide) (by omega) (by omega) (fun hc => ?_) (fun hc => ?_) <;> first | (exfalso; omega) | skip)
        | refine T_icmp_ne_t (tgt := 143) (pc := 127) k_M_next_127 rfl (by decide) ?_
        | refine T_icmp_ne_f (tgt := 143) (pc1 := 130) (pc := 127) k_M_next_127 rfl rfl (by decide) ?_
        | refine T_icmp_ne (tgt := 143) (pc1 := 130) (pc := 127) k_M_next_127 rfl rfl (fun hc => ?_) (fun hc => ?_)
        | refine T_aload_n (pc1 := 131) (pc := 130) k_M_next_130 rfl rfl ?_
        | refine T_aload_nN (pc1 := 131) (pc := 130) k_M_next_130 rfl rfl ?_
        | refine T_dup (pc1 := 132) (pc := 131) k_M_next_131 rfl rfl ?_
        | refine T_getV (pc1 := 135) (pc := 132) k_M_next_132 rfl f_M_210 rfl (by first | exact ga G (by decide) rfl | assumption) (by first | assumption | (simp (disch := omega) only [pI_eq, pI_row, pI_col, va_up_self, va_up_ne, ne_eq, not_false_eq_true] <;> rfl) | rfl) ?_
        | refine T_iconst (v := (nI 1)) (pc1 := 136) (pc := 135) k_M_next_135 rfl (by decide) ?_
        | with_reducible refine T_iaddN (pc1 := 137) (pc := 136) k_M_next_136 (by decide) ?_
        | refine T_iadd (pc1 := 137) (pc := 136) k_M_next_136 rfl ?_
        | refine T_putI (pc1 := 140) (pc := 137) k_M_next_137 rfl f_M_210 rfl (by first | exact ga G (by decide) rfl | assumption) (by first | rfl | decide | assumption) (by first | rfl | decide | assumption) ?_
        | refine T_goto (tgt := 102) (pc := 140) k_M_next_140 rfl ?_)
      · rw [if_neg (by omega)] at hen
        exact fin k _ J hJ hk h11 h12 h13 hen htg
      · rw [if_pos (by omega)] at hen
        exact ih (k + 1) _ _ (by omega) hir (eqx_pI hJ _ (by decide)) (fun j a b c => by rw [pI_col b]; exact hk j a b c) (by rw [pI_col (by decide)]; exact h11) pI_eq (by rw [pI_col (by decide)]; exact h13) hen htg
  -- behind the spaces
  have mid : ∀ tight (J : IM), eqx [101] I J → (∀ k, k ≠ 11 → J 101 k = I 101 k) → J 101 11 = nI (tkS T z e) → tight = nI (if tkS T z e = e ∧ isr so then 1 else 0) → Rl 3 M_M_next 63 [some (.ref 101), some (.int (nI so)), some (.int tight)] [] g J K := by
    intro tight J hJ hk h11 htg
    repeat' (first
      | refine T_aload_n (pc1 := 64) (pc := 63) k_M_next_63 rfl rfl ?_
      | refine T_aload_nN (pc1 := 64) (pc := 63) k_M_next_63 rfl rfl ?_
      | refine T_aload_n (pc1 := 65) (pc := 64) k_M_next_64 rfl rfl ?_
      | refine T_aload_nN (pc1 := 65) (pc := 64) k_M_next_64 rfl rfl ?_
      | refine T_aload_n (pc1 := 66) (pc := 65) k_M_next_65 rfl rfl ?_
      | refine T_aload_nN (pc1 := 66) (pc := 65) k_M_next_65 rfl rfl ?_
      | refine T_getV (pc1 := 69) (pc := 66) k_M_next_66 rfl f_M_213 rfl (by first | exact ga G (by decide) rfl | assumption) (by first | assumption | (simp (disch := omega) only [pI_eq, pI_row, pI_col, va_up_self, va_up_ne, ne_eq, not_false_eq_true] <;> rfl) | rfl) ?_
      | (refine T_cV (As := [_]) (d1 := 1) (pc1 := 72) (pc := 69) k_M_next_69 rfl (by decide) (Nat.le_of_ble_eq_true rfl) rfl o_M_byteAt l_M_216 rfl (by first | exact ga G (by decide) rfl | assumption) rfl (c_M_byteAt (T := T) (z := z) G ((hJ 108 (by decide)).trans hT) ((hk 8 (by decide)).trans hz) h96 (by omega) ?_) <;> try dsimp only [psh])
      | (refine T_cS (As := [_]) (d1 := 2) (pc1 := 75) (pc := 72) k_M_next_72 rfl (by decide) (Nat.le_of_ble_eq_true rfl) rfl o_M_sortOf l_M_222 rfl (c_M_sortOf ?_) <;> try dsimp only [psh]))
    have ek : sOf (byA T z (tkS T z e)) = srt T z (tkS T z e) := rfl
    rw [ek]
    have j13 : ∀ v, pI J 101 13 v 101 11 = nI (tkS T z e) := fun v => by rw [pI_col (by decide)]; exact h11
    have a11 := j13 (nI (srt T z (tkS T z e)))
    by_cases c0 : srt T z (tkS T z e) = 0
    · have hen : tkE T z (tkS T z e) = tkS T z e := by rw [tkE, if_pos c0]
      repeat' (first
        | refine T_putI (pc1 := 78) (pc := 75) k_M_next_75 rfl f_M_207 rfl (by first | exact ga G (by decide) rfl | assumption) (by first | rfl | decide | assumption) (by first | rfl | decide | assumption) ?_
        | refine T_aload_n (pc1 := 79) (pc := 78) k_M_next_78 rfl rfl ?_
        | refine T_aload_nN (pc1 := 79) (pc := 78) k_M_next_78 rfl rfl ?_
        | refine T_aload_n (pc1 := 80) (pc := 79) k_M_next_79 rfl rfl ?_
        | refine T_aload_nN (pc1 := 80) (pc := 79) k_M_next_79 rfl rfl ?_
        | refine T_getV (pc1 := 83) (pc := 80) k_M_next_80 rfl f_M_207 rfl (by first | exact ga G (by decide) rfl | assumption) (by first | assumption | (simp (disch := omega) only [pI_eq, pI_row, pI_col, va_up_self, va_up_ne, ne_eq, not_false_eq_true] <;> rfl) | rfl) ?_
        | (with_reducible refine T_if_neN (tgt := 93) (pc1 := 86) (pc := 83) k_M_next_83 (by decide) (by decide) (by omega) (fun hc => ?_) (fun hc => ?_) <;> first | (exfalso; omega) | skip)
        | refine T_if_ne_t (tgt := 93) (pc := 83) k_M_next_83 rfl (by decide) ?_
        | refine T_if_ne_f (tgt := 93) (pc1 := 86) (pc := 83) k_M_next_83 rfl rfl (by decide) ?_
        | refine T_if_ne (tgt := 93) (pc1 := 86) (pc := 83) k_M_next_83 rfl rfl (fun hc => ?_) (fun hc => ?_)
        | refine T_aload_n (pc1 := 87) (pc := 86) k_M_next_86 rfl rfl ?_
        | refine T_aload_nN (pc1 := 87) (pc := 86) k_M_next_86 rfl rfl ?_
        | refine T_getV (pc1 := 90) (pc := 87) k_M_next_87 rfl f_M_213 rfl (by first | exact ga G (by decide) rfl | assumption) (by first | assumption | (simp (disch := omega) only [pI_eq, pI_row, pI_col, va_up_self, va_up_ne, ne_eq, not_false_eq_true] <;> rfl) | rfl) ?_
        | refine T_goto (tgt := 99) (pc := 90) k_M_next_90 rfl ?_
        | refine T_aload_n (pc1 := 94) (pc := 93) k_M_next_93 rfl rfl ?_
        | refine T_aload_nN (pc1 := 94) (pc := 93) k_M_next_93 rfl rfl ?_
        | refine T_getV (pc1 := 97) (pc := 94) k_M_next_94 rfl f_M_213 rfl (by first | exact ga G (by decide) rfl | assumption) (by first | assumption | (simp (disch := omega) only [pI_eq, pI_row, pI_col, va_up_self, va_up_ne, ne_eq, not_false_eq_true] <;> rfl) | rfl) ?_
        | refine T_iconst (v := (nI 1)) (pc1 := 98) (pc := 97) k_M_next_97 rfl (by decide) ?_
        | with_reducible refine T_iaddN (pc1 := 99) (pc := 98) k_M_next_98 (by decide) ?_
        | refine T_iadd (pc1 := 99) (pc := 98) k_M_next_98 rfl ?_
        | refine T_putI (pc1 := 102) (pc := 99) k_M_next_99 rfl f_M_210 rfl (by first | exact ga G (by decide) rfl | assumption) (by first | rfl | decide | assumption) (by first | rfl | decide | assumption) ?_)
      all_goals try (exfalso; omega)
      have b13 : pI (pI J 101 13 (nI (srt T z (tkS T z e)))) 101 12 (nI (tkS T z e)) 101 13 = nI (srt T z (tkS T z e)) := by rw [pI_col (by decide), pI_eq]
      repeat' (first
        | refine T_aload_n (pc1 := 103) (pc := 102) k_M_next_102 rfl rfl ?_
        | refine T_aload_nN (pc1 := 103) (pc := 102) k_M_next_102 rfl rfl ?_
        | refine T_getV (pc1 := 106) (pc := 103) k_M_next_103 rfl f_M_207 rfl (by first | exact ga G (by decide) rfl | assumption) (by first | assumption | (simp (disch := omega) only [pI_eq, pI_row, pI_col, va_up_self, va_up_ne, ne_eq, not_false_eq_true] <;> rfl) | rfl) ?_
        | (refine T_cS (As := [_]) (d1 := 1) (pc1 := 109) (pc := 106) k_M_next_106 rfl (by decide) (Nat.le_of_ble_eq_true rfl) rfl o_M_isRow l_M_219 rfl (c_M_isRow (by omega) (fun hr => ?_) (fun hr => ?_)) <;> try dsimp only [psh])
        | (with_reducible refine T_if_eqN (tgt := 143) (pc1 := 112) (pc := 109) k_M_next_109 (by decide) (by decide) (by omega) (fun hc => ?_) (fun hc => ?_) <;> first | (exfalso; omega) | skip)
        | refine T_if_eq_t (tgt := 143) (pc := 109) k_M_next_109 rfl (by decide) ?_
        | refine T_if_eq_f (tgt := 143) (pc1 := 112) (pc := 109) k_M_next_109 rfl rfl (by decide) ?_
        | refine T_if_eq (tgt := 143) (pc1 := 112) (pc := 109) k_M_next_109 rfl rfl (fun hc => ?_) (fun hc => ?_))
      all_goals first | (exfalso; rw [c0] at hr; omega) | exact fin _ _ _ (eqx_pI (eqx_pI hJ _ (by decide)) _ (by decide)) (fun k a b c => by rw [pI_col b, pI_col c]; exact hk k a) (by rw [pI_col (by decide)]; exact a11) pI_eq b13 hen.symm htg
    · repeat' (first
        | refine T_putI (pc1 := 78) (pc := 75) k_M_next_75 rfl f_M_207 rfl (by first | exact ga G (by decide) rfl | assumption) (by first | rfl | decide | assumption) (by first | rfl | decide | assumption) ?_
        | refine T_aload_n (pc1 := 79) (pc := 78) k_M_next_78 rfl rfl ?_
        | refine T_aload_nN (pc1 := 79) (pc := 78) k_M_next_78 rfl rfl ?_
        | refine T_aload_n (pc1 := 80) (pc := 79) k_M_next_79 rfl rfl ?_
        | refine T_aload_nN (pc1 := 80) (pc := 79) k_M_next_79 rfl rfl ?_
        | refine T_getV (pc1 := 83) (pc := 80) k_M_next_80 rfl f_M_207 rfl (by first | exact ga G (by decide) rfl | assumption) (by first | assumption | (simp (disch := omega) only [pI_eq, pI_row, pI_col, va_up_self, va_up_ne, ne_eq, not_false_eq_true] <;> rfl) | rfl) ?_
        | (with_reducible refine T_if_neN (tgt := 93) (pc1 := 86) (pc := 83) k_M_next_83 (by decide) (by decide) (by omega) (fun hc => ?_) (fun hc => ?_) <;> first | (exfalso; omega) | skip)
        | refine T_if_ne_t (tgt := 93) (pc := 83) k_M_next_83 rfl (by decide) ?_
        | refine T_if_ne_f (tgt := 93) (pc1 := 86) (pc := 83) k_M_next_83 rfl rfl (by decide) ?_
        | refine T_if_ne (tgt := 93) (pc1 := 86) (pc := 83) k_M_next_83 rfl rfl (fun hc => ?_) (fun hc => ?_)
        | refine T_aload_n (pc1 := 87) (pc := 86) k_M_next_86 rfl rfl ?_
        | refine T_aload_nN (pc1 := 87) (pc := 86) k_M_next_86 rfl rfl ?_
        | refine T_getV (pc1 := 90) (pc := 87) k_M_next_87 rfl f_M_213 rfl (by first | exact ga G (by decide) rfl | assumption) (by first | assumption | (simp (disch := omega) only [pI_eq, pI_row, pI_col, va_up_self, va_up_ne, ne_eq, not_false_eq_true] <;> rfl) | rfl) ?_
        | refine T_goto (tgt := 99) (pc := 90) k_M_next_90 rfl ?_
        | refine T_aload_n (pc1 := 94) (pc := 93) k_M_next_93 rfl rfl ?_
        | refine T_aload_nN (pc1 := 94) (pc := 93) k_M_next_93 rfl rfl ?_
        | refine T_getV (pc1 := 97) (pc := 94) k_M_next_94 rfl f_M_213 rfl (by first | exact ga G (by decide) rfl | assumption) (by first | assumption | (simp (disch := omega) only [pI_eq, pI_row, pI_col, va_up_self, va_up_ne, ne_eq, not_false_eq_true] <;> rfl) | rfl) ?_
        | refine T_iconst (v := (nI 1)) (pc1 := 98) (pc := 97) k_M_next_97 rfl (by decide) ?_
        | with_reducible refine T_iaddN (pc1 := 99) (pc := 98) k_M_next_98 (by decide) ?_
        | refine T_iadd (pc1 := 99) (pc := 98) k_M_next_98 rfl ?_
        | refine T_putI (pc1 := 102) (pc := 99) k_M_next_99 rfl f_M_210 rfl (by first | exact ga G (by decide) rfl | assumption) (by first | rfl | decide | assumption) (by first | rfl | decide | assumption) ?_)
      all_goals try (exfalso; omega)
      have b13 : pI (pI J 101 13 (nI (srt T z (tkS T z e)))) 101 12 (nI (tkS T z e + 1)) 101 13 = nI (srt T z (tkS T z e)) := by rw [pI_col (by decide), pI_eq]
      have hlt : tkS T z e < z := by
        refine Decidable.byContradiction fun q => ?_
        exact c0 (h0.mpr q)
      by_cases c3 : srt T z (tkS T z e) = 3
      · have hen : tkE T z (tkS T z e) = tkS T z e + 1 := by rw [tkE, if_neg c0, if_pos c3]
        repeat' (first
          | refine T_aload_n (pc1 := 103) (pc := 102) k_M_next_102 rfl rfl ?_
          | refine T_aload_nN (pc1 := 103) (pc := 102) k_M_next_102 rfl rfl ?_
          | refine T_getV (pc1 := 106) (pc := 103) k_M_next_103 rfl f_M_207 rfl (by first | exact ga G (by decide) rfl | assumption) (by first | assumption | (simp (disch := omega) only [pI_eq, pI_row, pI_col, va_up_self, va_up_ne, ne_eq, not_false_eq_true] <;> rfl) | rfl) ?_
          | (refine T_cS (As := [_]) (d1 := 1) (pc1 := 109) (pc := 106) k_M_next_106 rfl (by decide) (Nat.le_of_ble_eq_true rfl) rfl o_M_isRow l_M_219 rfl (c_M_isRow (by omega) (fun hr => ?_) (fun hr => ?_)) <;> try dsimp only [psh])
          | (with_reducible refine T_if_eqN (tgt := 143) (pc1 := 112) (pc := 109) k_M_next_109 (by decide) (by decide) (by omega) (fun hc => ?_) (fun hc => ?_) <;> first | (exfalso; omega) | skip)
          | refine T_if_eq_t (tgt := 143) (pc := 109) k_M_next_109 rfl (by decide) ?_
          | refine T_if_eq_f (tgt := 143) (pc1 := 112) (pc := 109) k_M_next_109 rfl rfl (by decide) ?_
          | refine T_if_eq (tgt := 143) (pc1 := 112) (pc := 109) k_M_next_109 rfl rfl (fun hc => ?_) (fun hc => ?_))
        all_goals first | (exfalso; rw [c3] at hr; omega) | exact fin _ _ _ (eqx_pI (eqx_pI hJ _ (by decide)) _ (by decide)) (fun k a b c => by rw [pI_col b, pI_col c]; exact hk k a) (by rw [pI_col (by decide)]; exact a11) pI_eq b13 hen.symm htg
      · have hen : tkE T z (tkS T z e) = rn1 T z (srt T z (tkS T z e)) (z - (tkS T z e + 1)) (tkS T z e + 1) := by rw [tkE, if_neg c0, if_neg c3]
        exact run (z - (tkS T z e + 1)) (tkS T z e + 1) _ _ (by omega) (by omega) (eqx_pI (eqx_pI hJ _ (by decide)) _ (by decide)) (fun k a b c => by rw [pI_col b, pI_col c]; exact hk k a) (by rw [pI_col (by decide)]; exact a11) pI_eq b13 hen.symm htg
  -- the spaces
  have skip : ∀ f k (J : IM), k + f = z → e ≤ k → eqx [101] I J → (∀ k, k ≠ 11 → J 101 k = I 101 k) → J 101 11 = nI k → skp T f k = tkS T z e → Rl 3 M_M_next 13 [some (.ref 101), some (.int (nI so)), none] [] g J K := by
    intro f
    have leave : ∀ k (J : IM), e ≤ k → k ≤ z → eqx [101] I J → (∀ k, k ≠ 11 → J 101 k = I 101 k) → J 101 11 = nI k → k = tkS T z e → Rl 3 M_M_next 39 [some (.ref 101), some (.int (nI so)), none] [] g J K := by
      intro k J hek hkz hJ hk h11 hks
      have h12 : J 101 12 = nI e := (hk 12 (by decide)).trans he
      subst hks
      repeat' (first
        | refine T_aload_n (pc1 := 40) (pc := 39) k_M_next_39 rfl rfl ?_
        | refine T_aload_nN (pc1 := 40) (pc := 39) k_M_next_39 rfl rfl ?_
        | refine T_getV (pc1 := 43) (pc := 40) k_M_next_40 rfl f_M_213 rfl (by first | exact ga G (by decide) rfl | assumption) (by first | assumption | (simp (disch := omega) only [pI_eq, pI_row, pI_col, va_up_self, va_up_ne, ne_eq, not_false_eq_true] <;> rfl) | rfl) ?_
        | refine T_aload_n (pc1 := 44) (pc := 43) k_M_next_43 rfl rfl ?_
        | refine T_aload_nN (pc1 := 44) (pc := 43) k_M_next_43 rfl rfl ?_
        | refine T_getV (pc1 := 47) (pc := 44) k_M_next_44 rfl f_M_210 rfl (by first | exact ga G (by decide) rfl | assumption) (by first | assumption | (simp (disch := omega) only [pI_eq, pI_row, pI_col, va_up_self, va_up_ne, ne_eq, not_false_eq_true] <;> rfl) | rfl) ?_
        | (with_reducible refine T_icmp_neN (tgt := 61) (pc1 := 50) (pc := 47) k_M_next_47 (by decide) (by decide) (by omega) (by omega) (fun hc => ?_) (fun hc => ?_) <;> first | (exfalso; omega) | skip)
        | refine T_icmp_ne_t (tgt := 61) (pc := 47) k_M_next_47 rfl (by decide) ?_
        | refine T_icmp_ne_f (tgt := 61) (pc1 := 50) (pc := 47) k_M_next_47 rfl rfl (by decide) ?_
        | refine T_icmp_ne (tgt := 61) (pc1 := 50) (pc := 47) k_M_next_47 rfl rfl (fun hc => ?_) (fun hc => ?_)
        | refine T_iload_n (pc1 := 51) (pc := 50) k_M_next_50 rfl rfl ?_
        | (refine T_cS (As := [_]) (d1 := 1) (pc1 := 54) (pc := 51) k_M_next_51 rfl (by decide) (Nat.le_of_ble_eq_true rfl) rfl o_M_isRow l_M_219 rfl (c_M_isRow (by omega) (fun hr => ?_) (fun hr => ?_)) <;> try dsimp only [psh])
        | (with_reducible refine T_if_eqN (tgt := 61) (pc1 := 57) (pc := 54) k_M_next_54 (by decide) (by decide) (by omega) (fun hc => ?_) (fun hc => ?_) <;> first | (exfalso; omega) | skip)
        | refine T_if_eq_t (tgt := 61) (pc := 54) k_M_next_54 rfl (by decide) ?_
        | refine T_if_eq_f (tgt := 61) (pc1 := 57) (pc := 54) k_M_next_54 rfl rfl (by decide) ?_
        | refine T_if_eq (tgt := 61) (pc1 := 57) (pc := 54) k_M_next_54 rfl rfl (fun hc => ?_) (fun hc => ?_)
        | refine T_iconst (v := (nI 1)) (pc1 := 58) (pc := 57) k_M_next_57 rfl (by decide) ?_
        | refine T_goto (tgt := 62) (pc := 58) k_M_next_58 rfl ?_
        | refine T_iconst (v := (nI 0)) (pc1 := 62) (pc := 61) k_M_next_61 rfl (by decide) ?_
        | refine T_istore_n (pc1 := 63) (pc := 62) k_M_next_62 rfl (Nat.le_of_ble_eq_true rfl) ?_)
      · exact mid _ J hJ hk h11 (by rw [if_neg (by omega)])
      · exact mid _ J hJ hk h11 (by rw [if_pos ⟨by omega, hr⟩])
      · exact mid _ J hJ hk h11 (by rw [if_neg (fun q => hr q.2)])
    induction f with
    | zero =>
      intro k J hkf hek hJ hk h11 hsk
      repeat' (first
        | refine T_aload_n (pc1 := 14) (pc := 13) k_M_next_13 rfl rfl ?_
        | refine T_aload_nN (pc1 := 14) (pc := 13) k_M_next_13 rfl rfl ?_
        | refine T_aload_n (pc1 := 15) (pc := 14) k_M_next_14 rfl rfl ?_
        | refine T_aload_nN (pc1 := 15) (pc := 14) k_M_next_14 rfl rfl ?_
        | refine T_getV (pc1 := 18) (pc := 15) k_M_next_15 rfl f_M_213 rfl (by first | exact ga G (by decide) rfl | assumption) (by first | assumption | (simp (disch := omega) only [pI_eq, pI_row, pI_col, va_up_self, va_up_ne, ne_eq, not_false_eq_true] <;> rfl) | rfl) ?_
        | (refine T_cV (As := [_]) (d1 := 1) (pc1 := 21) (pc := 18) k_M_next_18 rfl (by decide) (Nat.le_of_ble_eq_true rfl) rfl o_M_byteAt l_M_216 rfl (by first | exact ga G (by decide) rfl | assumption) rfl (c_M_byteAt (T := T) (z := z) G ((hJ 108 (by decide)).trans hT) ((hk 8 (by decide)).trans hz) h96 (by omega) ?_) <;> try dsimp only [psh]))
      rw [byA, if_neg (by omega)]
      repeat' (first
        | refine T_bipush (v := (nI 32)) (pc1 := 23) (pc := 21) k_M_next_21 rfl (by decide) ?_
        | (with_reducible refine T_icmp_neN (tgt := 39) (pc1 := 26) (pc := 23) k_M_next_23 (by decide) (by decide) (by omega) (by omega) (fun hc => ?_) (fun hc => ?_) <;> first | (exfalso; omega) | skip)
        | refine T_icmp_ne_t (tgt := 39) (pc := 23) k_M_next_23 rfl (by decide) ?_
        | refine T_icmp_ne_f (tgt := 39) (pc1 := 26) (pc := 23) k_M_next_23 rfl rfl (by decide) ?_
        | refine T_icmp_ne (tgt := 39) (pc1 := 26) (pc := 23) k_M_next_23 rfl rfl (fun hc => ?_) (fun hc => ?_))
      exact leave k J hek (by omega) hJ hk h11 hsk
    | succ f ih =>
      intro k J hkf hek hJ hk h11 hsk
      rw [skp] at hsk
      repeat' (first
        | refine T_aload_n (pc1 := 14) (pc := 13) k_M_next_13 rfl rfl ?_
        | refine T_aload_nN (pc1 := 14) (pc := 13) k_M_next_13 rfl rfl ?_
        | refine T_aload_n (pc1 := 15) (pc := 14) k_M_next_14 rfl rfl ?_
        | refine T_aload_nN (pc1 := 15) (pc := 14) k_M_next_14 rfl rfl ?_
        | refine T_getV (pc1 := 18) (pc := 15) k_M_next_15 rfl f_M_213 rfl (by first | exact ga G (by decide) rfl | assumption) (by first | assumption | (simp (disch := omega) only [pI_eq, pI_row, pI_col, va_up_self, va_up_ne, ne_eq, not_false_eq_true] <;> rfl) | rfl) ?_
        | (refine T_cV (As := [_]) (d1 := 1) (pc1 := 21) (pc := 18) k_M_next_18 rfl (by decide) (Nat.le_of_ble_eq_true rfl) rfl o_M_byteAt l_M_216 rfl (by first | exact ga G (by decide) rfl | assumption) rfl (c_M_byteAt (T := T) (z := z) G ((hJ 108 (by decide)).trans hT) ((hk 8 (by decide)).trans hz) h96 (by omega) ?_) <;> try dsimp only [psh]))
      rw [byA, if_pos (by omega)]
      repeat' (first
        | refine T_bipush (v := (nI 32)) (pc1 := 23) (pc := 21) k_M_next_21 rfl (by decide) ?_
        | (with_reducible refine T_icmp_neN (tgt := 39) (pc1 := 26) (pc := 23) k_M_next_23 (by decide) (by decide) (by omega) (by omega) (fun hc => ?_) (fun hc => ?_) <;> first | (exfalso; omega) | skip)
        | refine T_icmp_ne_t (tgt := 39) (pc := 23) k_M_next_23 rfl (by decide) ?_
        | refine T_icmp_ne_f (tgt := 39) (pc1 := 26) (pc := 23) k_M_next_23 rfl rfl (by decide) ?_
        | refine T_icmp_ne (tgt := 39) (pc1 := 26) (pc := 23) k_M_next_23 rfl rfl (fun hc => ?_) (fun hc => ?_)
        | refine T_aload_n (pc1 := 27) (pc := 26) k_M_next_26 rfl rfl ?_
        | refine T_aload_nN (pc1 := 27) (pc := 26) k_M_next_26 rfl rfl ?_
        | refine T_dup (pc1 := 28) (pc := 27) k_M_next_27 rfl rfl ?_
        | refine T_getV (pc1 := 31) (pc := 28) k_M_next_28 rfl f_M_213 rfl (by first | exact ga G (by decide) rfl | assumption) (by first | assumption | (simp (disch := omega) only [pI_eq, pI_row, pI_col, va_up_self, va_up_ne, ne_eq, not_false_eq_true] <;> rfl) | rfl) ?_
        | refine T_iconst (v := (nI 1)) (pc1 := 32) (pc := 31) k_M_next_31 rfl (by decide) ?_
        | with_reducible refine T_iaddN (pc1 := 33) (pc := 32) k_M_next_32 (by decide) ?_
        | refine T_iadd (pc1 := 33) (pc := 32) k_M_next_32 rfl ?_
        | refine T_putI (pc1 := 36) (pc := 33) k_M_next_33 rfl f_M_213 rfl (by first | exact ga G (by decide) rfl | assumption) (by first | rfl | decide | assumption) (by first | rfl | decide | assumption) ?_
        | refine T_goto (tgt := 13) (pc := 36) k_M_next_36 rfl ?_)
      · rw [if_neg (by assumption)] at hsk
        exact leave k J hek (by omega) hJ hk h11 hsk
      · rw [if_pos (Decidable.not_not.mp (by assumption))] at hsk
        exact ih (k + 1) _ (by omega) (by omega) (eqx_pI hJ _ (by decide)) (fun j a => by rw [pI_col a]; exact hk j a) pI_eq hsk
  repeat' (first
    | refine T_aload_n (pc1 := 1) (pc := 0) k_M_next_0 rfl rfl ?_
    | refine T_aload_nN (pc1 := 1) (pc := 0) k_M_next_0 rfl rfl ?_
    | refine T_getV (pc1 := 4) (pc := 1) k_M_next_1 rfl f_M_207 rfl (by first | exact ga G (by decide) rfl | assumption) (by first | assumption | (simp (disch := omega) only [pI_eq, pI_row, pI_col, va_up_self, va_up_ne, ne_eq, not_false_eq_true] <;> rfl) | rfl) ?_
    | refine T_istore_n (pc1 := 5) (pc := 4) k_M_next_4 rfl (Nat.le_of_ble_eq_true rfl) ?_
    | refine T_aload_n (pc1 := 6) (pc := 5) k_M_next_5 rfl rfl ?_
    | refine T_aload_nN (pc1 := 6) (pc := 5) k_M_next_5 rfl rfl ?_
    | refine T_aload_n (pc1 := 7) (pc := 6) k_M_next_6 rfl rfl ?_
    | refine T_aload_nN (pc1 := 7) (pc := 6) k_M_next_6 rfl rfl ?_
    | refine T_getV (pc1 := 10) (pc := 7) k_M_next_7 rfl f_M_210 rfl (by first | exact ga G (by decide) rfl | assumption) (by first | assumption | (simp (disch := omega) only [pI_eq, pI_row, pI_col, va_up_self, va_up_ne, ne_eq, not_false_eq_true] <;> rfl) | rfl) ?_
    | refine T_putI (pc1 := 13) (pc := 10) k_M_next_10 rfl f_M_213 rfl (by first | exact ga G (by decide) rfl | assumption) (by first | rfl | decide | assumption) (by first | rfl | decide | assumption) ?_)
  exact skip (z - e) e _ (by omega) (Nat.le_refl _) (eqx_pI eqx_rf _ (by decide)) (fun j a => pI_col a) pI_eq rfl
end M21
