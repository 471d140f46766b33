/-! The model: reading, level by level. -/
section M23
variable {g : Geo} {T : Row} {z key : Nat}
theorem c_M_readLeafW {I : IM} {K : Option Value → Geo → IM → Prop} {p : PS} (G : GeoOK g) (hF : g.1.2.2.category = 1) (okt : okTp T z) (hk : key < 3) (h : PMw T z key p I) (hw : wfP T z p) (kk : ∀ J, FrM I J → PMw T z key p J → K none g J) : Cl 5 M_M_readLeaf [.ref 101] g I K := by
  show Rl 5 M_M_readLeaf 0 [some (.ref 101), none, none, none] [] g I K
  obtain ⟨h1, h2, h3, h4, h5, h6, h7⟩ := id h
  refine c_leaf0 G hF okt hk hw h1 h3 h4 h5 h7 (fun o3 => ?_)
  generalize lfV T p = a
  generalize lfN T key p = b
  have hp : ∀ v, PMw T z key p (pI I 101 18 v) := fun v => PMw_p h (by decide)
  repeat' (first
    | ((first | refine T_aload_n (pc1 := 138) (pc := 137) k_M_readLeaf_137 rfl rfl ?_ | refine T_aload_nN (pc1 := 138) (pc := 137) k_M_readLeaf_137 rfl rfl ?_) <;> try (refine T_dup (pc1 := 139) (pc := 138) k_M_readLeaf_138 rfl rfl ?_ <;> try (refine T_getV (pc1 := 142) (pc := 139) k_M_readLeaf_139 rfl f_M_271 rfl (by first | exact ga G (by decide) rfl | assumption) (by first | assumption | (simp (disch := omega) only [pI_eq, pI_row, pI_col, va_up_self, va_up_ne, ne_eq, not_false_eq_true] <;> rfl) | rfl) ?_ <;> try (refine T_iconst (v := (nI 1)) (pc1 := 143) (pc := 142) k_M_readLeaf_142 rfl (by decide) ?_ <;> try ((first | with_reducible refine T_iaddN (pc1 := 144) (pc := 143) k_M_readLeaf_143 (by decide) ?_ | refine T_iadd (pc1 := 144) (pc := 143) k_M_readLeaf_143 rfl ?_) <;> try (refine T_putI (pc1 := 147) (pc := 144) k_M_readLeaf_144 rfl f_M_271 rfl (by first | exact ga G (by decide) rfl | assumption) (by first | rfl | decide | assumption) (by first | rfl | decide | assumption) ?_ <;> try ((first | refine T_aload_n (pc1 := 148) (pc := 147) k_M_readLeaf_147 rfl rfl ?_ | refine T_aload_nN (pc1 := 148) (pc := 147) k_M_readLeaf_147 rfl rfl ?_) <;> try (refine T_iload_n (pc1 := 149) (pc := 148) k_M_readLeaf_148 rfl rfl ?_ <;> try ((first | (with_reducible refine T_if_geN (tgt := 156) (pc1 := 152) (pc := 149) k_M_readLeaf_149 (by decide) (by decide) (by omega) ?_ <;> first | (exfalso; omega) | skip) | refine T_if_ge_t (tgt := 156) (pc := 149) k_M_readLeaf_149 rfl (by decide) ?_ | refine T_if_ge_f (tgt := 156) (pc1 := 152) (pc := 149) k_M_readLeaf_149 rfl rfl (by decide) ?_ | refine T_if_ge (tgt := 156) (pc1 := 152) (pc := 149) k_M_readLeaf_149 rfl rfl (fun hc => ?_) (fun hc => ?_)))))))))))
    | (refine T_iload_n (pc1 := 153) (pc := 152) k_M_readLeaf_152 rfl rfl ?_ <;> try ((first | (with_reducible refine T_if_ltN (tgt := 160) (pc1 := 156) (pc := 153) k_M_readLeaf_153 (by decide) (by decide) (by omega) ?_ <;> first | (exfalso; omega) | skip) | refine T_if_lt_t (tgt := 160) (pc := 153) k_M_readLeaf_153 rfl (by decide) ?_ | refine T_if_lt_f (tgt := 160) (pc1 := 156) (pc := 153) k_M_readLeaf_153 rfl rfl (by decide) ?_ | refine T_if_lt (tgt := 160) (pc1 := 156) (pc := 153) k_M_readLeaf_153 rfl rfl (fun hc => ?_) (fun hc => ?_))))
    | (refine T_iconst (v := (nI 1)) (pc1 := 157) (pc := 156) k_M_readLeaf_156 rfl (by decide) ?_ <;> try (refine T_goto (tgt := 161) (pc := 157) k_M_readLeaf_157 rfl ?_))
    | (refine T_iconst (v := (nI 0)) (pc1 := 161) (pc := 160) k_M_readLeaf_160 rfl (by decide) ?_)
    | ((refine T_cV (As := [_]) (d1 := 4) (pc1 := 164) (pc := 161) k_M_readLeaf_161 rfl (by decide) (Nat.le_of_ble_eq_true rfl) rfl o_M_must l_M_249 rfl (by first | exact ga G (by decide) rfl | assumption) rfl (c_M_mustw G (hp _) (fun J hJ hJP => ?_)) <;> try dsimp only [psh]) <;> try ((first | refine T_aload_n (pc1 := 165) (pc := 164) k_M_readLeaf_164 rfl rfl ?_ | refine T_aload_nN (pc1 := 165) (pc := 164) k_M_readLeaf_164 rfl rfl ?_) <;> try (refine T_iload_n (pc1 := 166) (pc := 165) k_M_readLeaf_165 rfl rfl ?_ <;> try ((first | (with_reducible refine T_if_ltN (tgt := 173) (pc1 := 169) (pc := 166) k_M_readLeaf_166 (by decide) (by decide) (by omega) ?_ <;> first | (exfalso; omega) | skip) | refine T_if_lt_t (tgt := 173) (pc := 166) k_M_readLeaf_166 rfl (by decide) ?_ | refine T_if_lt_f (tgt := 173) (pc1 := 169) (pc := 166) k_M_readLeaf_166 rfl rfl (by decide) ?_ | refine T_if_lt (tgt := 173) (pc1 := 169) (pc := 166) k_M_readLeaf_166 rfl rfl (fun hc => ?_) (fun hc => ?_))))))
    | (refine T_iload_n (pc1 := 170) (pc := 169) k_M_readLeaf_169 rfl rfl ?_ <;> try (refine T_goto (tgt := 177) (pc := 170) k_M_readLeaf_170 rfl ?_))
    | (refine T_bipush (v := (-10)) (pc1 := 175) (pc := 173) k_M_readLeaf_173 rfl (by decide) ?_ <;> try (refine T_iload_n (pc1 := 176) (pc := 175) k_M_readLeaf_175 rfl rfl ?_ <;> try ((first | with_reducible refine T_iaddN (pc1 := 177) (pc := 176) k_M_readLeaf_176 (by decide) ?_ | refine T_iadd (pc1 := 177) (pc := 176) k_M_readLeaf_176 rfl ?_))))
    | ((refine T_cV (As := [_]) (d1 := 1) (pc1 := 180) (pc := 177) k_M_readLeaf_177 rfl (by decide) (Nat.le_of_ble_eq_true rfl) rfl o_M_step l_M_256 rfl (by first | exact ga G (by decide) rfl | assumption) rfl (c_M_stepW G hJP ?_) <;> try dsimp only [psh]) <;> try (refine T_retV (pc := 180) k_M_readLeaf_180 rfl ?_))
    | refine T_dup (pc1 := 139) (pc := 138) k_M_readLeaf_138 rfl rfl ?_
    | refine T_getV (pc1 := 142) (pc := 139) k_M_readLeaf_139 rfl f_M_271 rfl (by first | exact ga G (by decide) rfl | assumption) (by first | assumption | (simp (disch := omega) only [pI_eq, pI_row, pI_col, va_up_self, va_up_ne, ne_eq, not_false_eq_true] <;> rfl) | rfl) ?_
    | refine T_iconst (v := (nI 1)) (pc1 := 143) (pc := 142) k_M_readLeaf_142 rfl (by decide) ?_
    | with_reducible refine T_iaddN (pc1 := 144) (pc := 143) k_M_readLeaf_143 (by decide) ?_
    | refine T_iadd (pc1 := 144) (pc := 143) k_M_readLeaf_143 rfl ?_
    | refine T_putI (pc1 := 147) (pc := 144) k_M_readLeaf_144 rfl f_M_271 rfl (by first | exact ga G (by decide) rfl | assumption) (by first | rfl | decide | assumption) (by first | rfl | decide | assumption) ?_
    | refine T_aload_n (pc1 := 148) (pc := 147) k_M_readLeaf_147 rfl rfl ?_
    | refine T_aload_nN (pc1 := 148) (pc := 147) k_M_readLeaf_147 rfl rfl ?_
    | refine T_iload_n (pc1 := 149) (pc := 148) k_M_readLeaf_148 rfl rfl ?_
    | (with_reducible refine T_if_geN (tgt := 156) (pc1 := 152) (pc := 149) k_M_readLeaf_149 (by decide) (by decide) (by omega) ?_ <;> first | (exfalso; omega) | skip)
    | refine T_if_ge_t (tgt := 156) (pc := 149) k_M_readLeaf_149 rfl (by decide) ?_
    | refine T_if_ge_f (tgt := 156) (pc1 := 152) (pc := 149) k_M_readLeaf_149 rfl rfl (by decide) ?_
    | refine T_if_ge (tgt := 156) (pc1 := 152) (pc := 149) k_M_readLeaf_149 rfl rfl (fun hc => ?_) (fun hc => ?_)
    | (with_reducible refine T_if_ltN (tgt := 160) (pc1 := 156) (pc := 153) k_M_readLeaf_153 (by decide) (by decide) (by omega) ?_ <;> first | (exfalso; omega) | skip)
    | refine T_if_lt_t (tgt := 160) (pc := 153) k_M_readLeaf_153 rfl (by decide) ?_
    | refine T_if_lt_f (tgt := 160) (pc1 := 156) (pc := 153) k_M_readLeaf_153 rfl rfl (by decide) ?_
    | refine T_if_lt (tgt := 160) (pc1 := 156) (pc := 153) k_M_readLeaf_153 rfl rfl (fun hc => ?_) (fun hc => ?_)
    | refine T_goto (tgt := 161) (pc := 157) k_M_readLeaf_157 rfl ?_
    | refine T_aload_n (pc1 := 165) (pc := 164) k_M_readLeaf_164 rfl rfl ?_
    | refine T_aload_nN (pc1 := 165) (pc := 164) k_M_readLeaf_164 rfl rfl ?_
    | refine T_iload_n (pc1 := 166) (pc := 165) k_M_readLeaf_165 rfl rfl ?_
    | (with_reducible refine T_if_ltN (tgt := 173) (pc1 := 169) (pc := 166) k_M_readLeaf_166 (by decide) (by decide) (by omega) ?_ <;> first | (exfalso; omega) | skip)
    | refine T_if_lt_t (tgt := 173) (pc := 166) k_M_readLeaf_166 rfl (by decide) ?_
    | refine T_if_lt_f (tgt := 173) (pc1 := 169) (pc := 166) k_M_readLeaf_166 rfl rfl (by decide) ?_
    | refine T_if_lt (tgt := 173) (pc1 := 169) (pc := 166) k_M_readLeaf_166 rfl rfl (fun hc => ?_) (fun hc => ?_)
    | refine T_goto (tgt := 177) (pc := 170) k_M_readLeaf_170 rfl ?_
    | refine T_iload_n (pc1 := 176) (pc := 175) k_M_readLeaf_175 rfl rfl ?_
    | with_reducible refine T_iaddN (pc1 := 177) (pc := 176) k_M_readLeaf_176 (by decide) ?_
    | refine T_iadd (pc1 := 177) (pc := 176) k_M_readLeaf_176 rfl ?_
    | refine T_retV (pc := 180) k_M_readLeaf_180 rfl ?_)
  all_goals exact kk J (FrM_tr (FrM_p FrM_rf (by decide)) hJ) hJP
set_option maxHeartbeats 4000000 in
theorem c_M_readLeafO {I : IM} {K : Option Value → Geo → IM → Prop} {no op : Nat} {p : PS} (G : GeoOK g) (hF : g.1.2.2.category = 1) (okt : okTp T z) (hk : key < 3) (h : PMo T z key no op p I) (hw : wfP T z p) (hm : pM p < 100) (k0 : ∀ c J, lfC T key p = some c → FrM I J → PMo T z key no op (ps1 (lf1 (nx T z p)) c) J → K none g J) (k1 : ∀ J, lfC T key p = none → FrM I J → PMw T z key p J → K none g J) : Cl 5 M_M_readLeaf [.ref 101] g I K := by
  show Rl 5 M_M_readLeaf 0 [some (.ref 101), none, none, none] [] g I K
  have hp := PMo_lf h
  obtain ⟨h1, h2, h3, h4, h5, h6, h7, h8, h9, h10, h11, h12⟩ := id h
  refine c_leaf0 G hF okt hk hw h1 h3 h4 h5 h7 (fun o3 => ?_)
  by_cases c2 : pO p = 2 ∧ pE p - pS p ≤ 4
  · have hv : lfV T p = nI (num T (pS p) (pE p - pS p)) := if_pos c2
    have hc : lfC T key p = some (nI (num T (pS p) (pE p - pS p))) := by rw [lfC, if_pos c2]
    have hn := num_lt (s := pS p) okt (pE p - pS p) (fun j a b => hw.2.2.2.2 c2.1 j a (by omega))
    have : 10 ^ (pE p - pS p) ≤ 10 ^ 4 := Nat.pow_le_pow_right (by decide) c2.2
    rw [hv]
    repeat' (first
      | ((first | refine T_aload_n (pc1 := 138) (pc := 137) k_M_readLeaf_137 rfl rfl ?_ | refine T_aload_nN (pc1 := 138) (pc := 137) k_M_readLeaf_137 rfl rfl ?_) <;> try (refine T_dup (pc1 := 139) (pc := 138) k_M_readLeaf_138 rfl rfl ?_ <;> try (refine T_getV (pc1 := 142) (pc := 139) k_M_readLeaf_139 rfl f_M_271 rfl (by first | exact ga G (by decide) rfl | assumption) (by first | assumption | (simp (disch := omega) only [pI_eq, pI_row, pI_col, va_up_self, va_up_ne, ne_eq, not_false_eq_true] <;> rfl) | rfl) ?_ <;> try (refine T_iconst (v := (nI 1)) (pc1 := 143) (pc := 142) k_M_readLeaf_142 rfl (by decide) ?_ <;> try ((first | with_reducible refine T_iaddN (pc1 := 144) (pc := 143) k_M_readLeaf_143 (by decide) ?_ | refine T_iadd (pc1 := 144) (pc := 143) k_M_readLeaf_143 rfl ?_) <;> try (refine T_putI (pc1 := 147) (pc := 144) k_M_readLeaf_144 rfl f_M_271 rfl (by first | exact ga G (by decide) rfl | assumption) (by first | rfl | decide | assumption) (by first | rfl | decide | assumption) ?_ <;> try ((first | refine T_aload_n (pc1 := 148) (pc := 147) k_M_readLeaf_147 rfl rfl ?_ | refine T_aload_nN (pc1 := 148) (pc := 147) k_M_readLeaf_147 rfl rfl ?_) <;> try (refine T_iload_n (pc1 := 149) (pc := 148) k_M_readLeaf_148 rfl rfl ?_ <;> try ((first | (with_reducible refine T_if_geN (tgt := 156) (pc1 := 152) (pc := 149) k_M_readLeaf_149 (by decide) (by decide) (by omega) ?_ <;> first | (exfalso; omega) | skip) | refine T_if_ge_t (tgt := 156) (pc := 149) k_M_readLeaf_149 rfl (by decide) ?_ | refine T_if_ge_f (tgt := 156) (pc1 := 152) (pc := 149) k_M_readLeaf_149 rfl rfl (by decide) ?_ | refine T_if_ge (tgt := 156) (pc1 := 152) (pc := 149) k_M_readLeaf_149 rfl rfl (fun hc => ?_) (fun hc => ?_)))))))))))
      | (refine T_iload_n (pc1 := 153) (pc := 152) k_M_readLeaf_152 rfl rfl ?_ <;> try ((first | (with_reducible refine T_if_ltN (tgt := 160) (pc1 := 156) (pc := 153) k_M_readLeaf_153 (by decide) (by decide) (by omega) ?_ <;> first | (exfalso; omega) | skip) | refine T_if_lt_t (tgt := 160) (pc := 153) k_M_readLeaf_153 rfl (by decide) ?_ | refine T_if_lt_f (tgt := 160) (pc1 := 156) (pc := 153) k_M_readLeaf_153 rfl rfl (by decide) ?_ | refine T_if_lt (tgt := 160) (pc1 := 156) (pc := 153) k_M_readLeaf_153 rfl rfl (fun hc => ?_) (fun hc => ?_))))
      | (refine T_iconst (v := (nI 1)) (pc1 := 157) (pc := 156) k_M_readLeaf_156 rfl (by decide) ?_ <;> try (refine T_goto (tgt := 161) (pc := 157) k_M_readLeaf_157 rfl ?_))
      | (refine T_iconst (v := (nI 0)) (pc1 := 161) (pc := 160) k_M_readLeaf_160 rfl (by decide) ?_)
      | ((refine T_cV (As := [_]) (d1 := 4) (pc1 := 164) (pc := 161) k_M_readLeaf_161 rfl (by decide) (Nat.le_of_ble_eq_true rfl) rfl o_M_must l_M_249 rfl (by first | exact ga G (by decide) rfl | assumption) rfl (c_M_must1 (p := lf1 p) G okt hp hw (fun J hJ hJP => ?_)) <;> try dsimp only [psh]) <;> try ((first | refine T_aload_n (pc1 := 165) (pc := 164) k_M_readLeaf_164 rfl rfl ?_ | refine T_aload_nN (pc1 := 165) (pc := 164) k_M_readLeaf_164 rfl rfl ?_) <;> try (refine T_iload_n (pc1 := 166) (pc := 165) k_M_readLeaf_165 rfl rfl ?_ <;> try ((first | (with_reducible refine T_if_ltN (tgt := 173) (pc1 := 169) (pc := 166) k_M_readLeaf_166 (by decide) (by decide) (by omega) ?_ <;> first | (exfalso; omega) | skip) | refine T_if_lt_t (tgt := 173) (pc := 166) k_M_readLeaf_166 rfl (by decide) ?_ | refine T_if_lt_f (tgt := 173) (pc1 := 169) (pc := 166) k_M_readLeaf_166 rfl rfl (by decide) ?_ | refine T_if_lt (tgt := 173) (pc1 := 169) (pc := 166) k_M_readLeaf_166 rfl rfl (fun hc => ?_) (fun hc => ?_))))))
      | (refine T_iload_n (pc1 := 170) (pc := 169) k_M_readLeaf_169 rfl rfl ?_ <;> try (refine T_goto (tgt := 177) (pc := 170) k_M_readLeaf_170 rfl ?_))
      | (refine T_bipush (v := (-10)) (pc1 := 175) (pc := 173) k_M_readLeaf_173 rfl (by decide) ?_ <;> try (refine T_iload_n (pc1 := 176) (pc := 175) k_M_readLeaf_175 rfl rfl ?_ <;> try ((first | with_reducible refine T_iaddN (pc1 := 177) (pc := 176) k_M_readLeaf_176 (by decide) ?_ | refine T_iadd (pc1 := 177) (pc := 176) k_M_readLeaf_176 rfl ?_))))
      | ((refine T_cV (As := [_]) (d1 := 1) (pc1 := 180) (pc := 177) k_M_readLeaf_177 rfl (by decide) (Nat.le_of_ble_eq_true rfl) rfl o_M_step l_M_256 rfl (by first | exact ga G (by decide) rfl | assumption) rfl (c_M_stepO (p := nx T z (lf1 p)) G hJP hm (fun J2 hJ2 hJP2 => ?_)) <;> try dsimp only [psh]) <;> try (refine T_retV (pc := 180) k_M_readLeaf_180 rfl ?_))
      | refine T_dup (pc1 := 139) (pc := 138) k_M_readLeaf_138 rfl rfl ?_
      | refine T_getV (pc1 := 142) (pc := 139) k_M_readLeaf_139 rfl f_M_271 rfl (by first | exact ga G (by decide) rfl | assumption) (by first | assumption | (simp (disch := omega) only [pI_eq, pI_row, pI_col, va_up_self, va_up_ne, ne_eq, not_false_eq_true] <;> rfl) | rfl) ?_
      | refine T_iconst (v := (nI 1)) (pc1 := 143) (pc := 142) k_M_readLeaf_142 rfl (by decide) ?_
      | with_reducible refine T_iaddN (pc1 := 144) (pc := 143) k_M_readLeaf_143 (by decide) ?_
      | refine T_iadd (pc1 := 144) (pc := 143) k_M_readLeaf_143 rfl ?_
      | refine T_putI (pc1 := 147) (pc := 144) k_M_readLeaf_144 rfl f_M_271 rfl (by first | exact ga G (by decide) rfl | assumption) (by first | rfl | decide | assumption) (by first | rfl | decide | assumption) ?_
      | refine T_aload_n (pc1 := 148) (pc := 147) k_M_readLeaf_147 rfl rfl ?_
      | refine T_aload_nN (pc1 := 148) (pc := 147) k_M_readLeaf_147 rfl rfl ?_
      | refine T_iload_n (pc1 := 149) (pc := 148) k_M_readLeaf_148 rfl rfl ?_
      | (with_reducible refine T_if_geN (tgt := 156) (pc1 := 152) (pc := 149) k_M_readLeaf_149 (by decide) (by decide) (by omega) ?_ <;> first | (exfalso; omega) | skip)
      | refine T_if_ge_t (tgt := 156) (pc := 149) k_M_readLeaf_149 rfl (by decide) ?_
      | refine T_if_ge_f (tgt := 156) (pc1 := 152) (pc := 149) k_M_readLeaf_149 rfl rfl (by decide) ?_
      | refine T_if_ge (tgt := 156) (pc1 := 152) (pc := 149) k_M_readLeaf_149 rfl rfl (fun hc => ?_) (fun hc => ?_)
      | (with_reducible refine T_if_ltN (tgt := 160) (pc1 := 156) (pc := 153) k_M_readLeaf_153 (by decide) (by decide) (by omega) ?_ <;> first | (exfalso; omega) | skip)
      | refine T_if_lt_t (tgt := 160) (pc := 153) k_M_readLeaf_153 rfl (by decide) ?_
      | refine T_if_lt_f (tgt := 160) (pc1 := 156) (pc := 153) k_M_readLeaf_153 rfl rfl (by decide) ?_
      | refine T_if_lt (tgt := 160) (pc1 := 156) (pc := 153) k_M_readLeaf_153 rfl rfl (fun hc => ?_) (fun hc => ?_)
      | refine T_goto (tgt := 161) (pc := 157) k_M_readLeaf_157 rfl ?_
      | refine T_aload_n (pc1 := 165) (pc := 164) k_M_readLeaf_164 rfl rfl ?_
      | refine T_aload_nN (pc1 := 165) (pc := 164) k_M_readLeaf_164 rfl rfl ?_
      | refine T_iload_n (pc1 := 166) (pc := 165) k_M_readLeaf_165 rfl rfl ?_
      | (with_reducible refine T_if_ltN (tgt := 173) (pc1 := 169) (pc := 166) k_M_readLeaf_166 (by decide) (by decide) (by omega) ?_ <;> first | (exfalso; omega) | skip)
      | refine T_if_lt_t (tgt := 173) (pc := 166) k_M_readLeaf_166 rfl (by decide) ?_
      | refine T_if_lt_f (tgt := 173) (pc1 := 169) (pc := 166) k_M_readLeaf_166 rfl rfl (by decide) ?_
      | refine T_if_lt (tgt := 173) (pc1 := 169) (pc := 166) k_M_readLeaf_166 rfl rfl (fun hc => ?_) (fun hc => ?_)
      | refine T_goto (tgt := 177) (pc := 170) k_M_readLeaf_170 rfl ?_
      | refine T_iload_n (pc1 := 176) (pc := 175) k_M_readLeaf_175 rfl rfl ?_
      | with_reducible refine T_iaddN (pc1 := 177) (pc := 176) k_M_readLeaf_176 (by decide) ?_
      | refine T_iadd (pc1 := 177) (pc := 176) k_M_readLeaf_176 rfl ?_
      | refine T_retV (pc := 180) k_M_readLeaf_180 rfl ?_)
    exact k0 _ J2 hc (FrM_tr (FrM_tr (FrM_p FrM_rf (by decide)) hJ) hJ2) hJP2
  · have hv : lfV T p = -1 := if_neg c2
    rw [hv]
    by_cases c1 : pO p = 1 ∧ pE p = pS p + 1
    · have hN : lfN T key p = opt1 (nmI key (T (pS p))) := if_pos c1
      rw [hN]
      cases hx : nmI key (T (pS p)) with
      | none =>
        have hc : lfC T key p = none := by rw [lfC, if_neg c2, if_pos c1, hx]; rfl
        rw [show opt1 none = -1 from rfl]
        repeat' (first
          | ((first | refine T_aload_n (pc1 := 138) (pc := 137) k_M_readLeaf_137 rfl rfl ?_ | refine T_aload_nN (pc1 := 138) (pc := 137) k_M_readLeaf_137 rfl rfl ?_) <;> try (refine T_dup (pc1 := 139) (pc := 138) k_M_readLeaf_138 rfl rfl ?_ <;> try (refine T_getV (pc1 := 142) (pc := 139) k_M_readLeaf_139 rfl f_M_271 rfl (by first | exact ga G (by decide) rfl | assumption) (by first | assumption | (simp (disch := omega) only [pI_eq, pI_row, pI_col, va_up_self, va_up_ne, ne_eq, not_false_eq_true] <;> rfl) | rfl) ?_ <;> try (refine T_iconst (v := (nI 1)) (pc1 := 143) (pc := 142) k_M_readLeaf_142 rfl (by decide) ?_ <;> try ((first | with_reducible refine T_iaddN (pc1 := 144) (pc := 143) k_M_readLeaf_143 (by decide) ?_ | refine T_iadd (pc1 := 144) (pc := 143) k_M_readLeaf_143 rfl ?_) <;> try (refine T_putI (pc1 := 147) (pc := 144) k_M_readLeaf_144 rfl f_M_271 rfl (by first | exact ga G (by decide) rfl | assumption) (by first | rfl | decide | assumption) (by first | rfl | decide | assumption) ?_ <;> try ((first | refine T_aload_n (pc1 := 148) (pc := 147) k_M_readLeaf_147 rfl rfl ?_ | refine T_aload_nN (pc1 := 148) (pc := 147) k_M_readLeaf_147 rfl rfl ?_) <;> try (refine T_iload_n (pc1 := 149) (pc := 148) k_M_readLeaf_148 rfl rfl ?_ <;> try ((first | (with_reducible refine T_if_geN (tgt := 156) (pc1 := 152) (pc := 149) k_M_readLeaf_149 (by decide) (by decide) (by omega) ?_ <;> first | (exfalso; omega) | skip) | refine T_if_ge_t (tgt := 156) (pc := 149) k_M_readLeaf_149 rfl (by decide) ?_ | refine T_if_ge_f (tgt := 156) (pc1 := 152) (pc := 149) k_M_readLeaf_149 rfl rfl (by decide) ?_ | refine T_if_ge (tgt := 156) (pc1 := 152) (pc := 149) k_M_readLeaf_149 rfl rfl (fun hc => ?_) (fun hc => ?_)))))))))))
          | (refine T_iload_n (pc1 := 153) (pc := 152) k_M_readLeaf_152 rfl rfl ?_ <;> try ((first | (with_reducible refine T_if_ltN (tgt := 160) (pc1 := 156) (pc := 153) k_M_readLeaf_153 (by decide) (by decide) (by omega) ?_ <;> first | (exfalso; omega) | skip) | refine T_if_lt_t (tgt := 160) (pc := 153) k_M_readLeaf_153 rfl (by decide) ?_ | refine T_if_lt_f (tgt := 160) (pc1 := 156) (pc := 153) k_M_readLeaf_153 rfl rfl (by decide) ?_ | refine T_if_lt (tgt := 160) (pc1 := 156) (pc := 153) k_M_readLeaf_153 rfl rfl (fun hc => ?_) (fun hc => ?_))))
          | (refine T_iconst (v := (nI 1)) (pc1 := 157) (pc := 156) k_M_readLeaf_156 rfl (by decide) ?_ <;> try (refine T_goto (tgt := 161) (pc := 157) k_M_readLeaf_157 rfl ?_))
          | (refine T_iconst (v := (nI 0)) (pc1 := 161) (pc := 160) k_M_readLeaf_160 rfl (by decide) ?_)
          | ((refine T_cV (As := [_]) (d1 := 4) (pc1 := 164) (pc := 161) k_M_readLeaf_161 rfl (by decide) (Nat.le_of_ble_eq_true rfl) rfl o_M_must l_M_249 rfl (by first | exact ga G (by decide) rfl | assumption) rfl (c_M_must0 G hp (fun J hJ hJP => ?_)) <;> try dsimp only [psh]) <;> try ((first | refine T_aload_n (pc1 := 165) (pc := 164) k_M_readLeaf_164 rfl rfl ?_ | refine T_aload_nN (pc1 := 165) (pc := 164) k_M_readLeaf_164 rfl rfl ?_) <;> try (refine T_iload_n (pc1 := 166) (pc := 165) k_M_readLeaf_165 rfl rfl ?_ <;> try ((first | (with_reducible refine T_if_ltN (tgt := 173) (pc1 := 169) (pc := 166) k_M_readLeaf_166 (by decide) (by decide) (by omega) ?_ <;> first | (exfalso; omega) | skip) | refine T_if_lt_t (tgt := 173) (pc := 166) k_M_readLeaf_166 rfl (by decide) ?_ | refine T_if_lt_f (tgt := 173) (pc1 := 169) (pc := 166) k_M_readLeaf_166 rfl rfl (by decide) ?_ | refine T_if_lt (tgt := 173) (pc1 := 169) (pc := 166) k_M_readLeaf_166 rfl rfl (fun hc => ?_) (fun hc => ?_))))))
          | (refine T_iload_n (pc1 := 170) (pc := 169) k_M_readLeaf_169 rfl rfl ?_ <;> try (refine T_goto (tgt := 177) (pc := 170) k_M_readLeaf_170 rfl ?_))
          | (refine T_bipush (v := (-10)) (pc1 := 175) (pc := 173) k_M_readLeaf_173 rfl (by decide) ?_ <;> try (refine T_iload_n (pc1 := 176) (pc := 175) k_M_readLeaf_175 rfl rfl ?_ <;> try ((first | with_reducible refine T_iaddN (pc1 := 177) (pc := 176) k_M_readLeaf_176 (by decide) ?_ | refine T_iadd (pc1 := 177) (pc := 176) k_M_readLeaf_176 rfl ?_))))
          | ((refine T_cV (As := [_]) (d1 := 1) (pc1 := 180) (pc := 177) k_M_readLeaf_177 rfl (by decide) (Nat.le_of_ble_eq_true rfl) rfl o_M_step l_M_256 rfl (by first | exact ga G (by decide) rfl | assumption) rfl (c_M_stepW G hJP ?_) <;> try dsimp only [psh]) <;> try (refine T_retV (pc := 180) k_M_readLeaf_180 rfl ?_))
          | refine T_dup (pc1 := 139) (pc := 138) k_M_readLeaf_138 rfl rfl ?_
          | refine T_getV (pc1 := 142) (pc := 139) k_M_readLeaf_139 rfl f_M_271 rfl (by first | exact ga G (by decide) rfl | assumption) (by first | assumption | (simp (disch := omega) only [pI_eq, pI_row, pI_col, va_up_self, va_up_ne, ne_eq, not_false_eq_true] <;> rfl) | rfl) ?_
          | refine T_iconst (v := (nI 1)) (pc1 := 143) (pc := 142) k_M_readLeaf_142 rfl (by decide) ?_
          | with_reducible refine T_iaddN (pc1 := 144) (pc := 143) k_M_readLeaf_143 (by decide) ?_
          | refine T_iadd (pc1 := 144) (pc := 143) k_M_readLeaf_143 rfl ?_
          | refine T_putI (pc1 := 147) (pc := 144) k_M_readLeaf_144 rfl f_M_271 rfl (by first | exact ga G (by decide) rfl | assumption) (by first | rfl | decide | assumption) (by first | rfl | decide | assumption) ?_
          | refine T_aload_n (pc1 := 148) (pc := 147) k_M_readLeaf_147 rfl rfl ?_
          | refine T_aload_nN (pc1 := 148) (pc := 147) k_M_readLeaf_147 rfl rfl ?_
          | refine T_iload_n (pc1 := 149) (pc := 148) k_M_readLeaf_148 rfl rfl ?_
          | (with_reducible refine T_if_geN (tgt := 156) (pc1 := 152) (pc := 149) k_M_readLeaf_149 (by decide) (by decide) (by omega) ?_ <;> first | (exfalso; omega) | skip)
          | refine T_if_ge_t (tgt := 156) (pc := 149) k_M_readLeaf_149 rfl (by decide) ?_
          | refine T_if_ge_f (tgt := 156) (pc1 := 152) (pc := 149) k_M_readLeaf_149 rfl rfl (by decide) ?_
          | refine T_if_ge (tgt := 156) (pc1 := 152) (pc := 149) k_M_readLeaf_149 rfl rfl (fun hc => ?_) (fun hc => ?_)
          | (with_reducible refine T_if_ltN (tgt := 160) (pc1 := 156) (pc := 153) k_M_readLeaf_153 (by decide) (by decide) (by omega) ?_ <;> first | (exfalso; omega) | skip)
          | refine T_if_lt_t (tgt := 160) (pc := 153) k_M_readLeaf_153 rfl (by decide) ?_
          | refine T_if_lt_f (tgt := 160) (pc1 := 156) (pc := 153) k_M_readLeaf_153 rfl rfl (by decide) ?_
          | refine T_if_lt (tgt := 160) (pc1 := 156) (pc := 153) k_M_readLeaf_153 rfl rfl (fun hc => ?_) (fun hc => ?_)
          | refine T_goto (tgt := 161) (pc := 157) k_M_readLeaf_157 rfl ?_
          | refine T_aload_n (pc1 := 165) (pc := 164) k_M_readLeaf_164 rfl rfl ?_
          | refine T_aload_nN (pc1 := 165) (pc := 164) k_M_readLeaf_164 rfl rfl ?_
          | refine T_iload_n (pc1 := 166) (pc := 165) k_M_readLeaf_165 rfl rfl ?_
          | (with_reducible refine T_if_ltN (tgt := 173) (pc1 := 169) (pc := 166) k_M_readLeaf_166 (by decide) (by decide) (by omega) ?_ <;> first | (exfalso; omega) | skip)
          | refine T_if_lt_t (tgt := 173) (pc := 166) k_M_readLeaf_166 rfl (by decide) ?_
          | refine T_if_lt_f (tgt := 173) (pc1 := 169) (pc := 166) k_M_readLeaf_166 rfl rfl (by decide) ?_
          | refine T_if_lt (tgt := 173) (pc1 := 169) (pc := 166) k_M_readLeaf_166 rfl rfl (fun hc => ?_) (fun hc => ?_)
          | refine T_goto (tgt := 177) (pc := 170) k_M_readLeaf_170 rfl ?_
          | refine T_iload_n (pc1 := 176) (pc := 175) k_M_readLeaf_175 rfl rfl ?_
          | with_reducible refine T_iaddN (pc1 := 177) (pc := 176) k_M_readLeaf_176 (by decide) ?_
          | refine T_iadd (pc1 := 177) (pc := 176) k_M_readLeaf_176 rfl ?_
          | refine T_retV (pc := 180) k_M_readLeaf_180 rfl ?_)
        exact k1 J hc (FrM_tr (FrM_p FrM_rf (by decide)) hJ) hJP
      | some i =>
        have hc : lfC T key p = some (-10 + nI i) := by rw [lfC, if_neg c2, if_pos c1, hx]; rfl
        have hi := nmI_lt hk hx
        have := nn_le key
        rw [show opt1 (some i) = nI i from rfl]
        repeat' (first
          | ((first | refine T_aload_n (pc1 := 138) (pc := 137) k_M_readLeaf_137 rfl rfl ?_ | refine T_aload_nN (pc1 := 138) (pc := 137) k_M_readLeaf_137 rfl rfl ?_) <;> try (refine T_dup (pc1 := 139) (pc := 138) k_M_readLeaf_138 rfl rfl ?_ <;> try (refine T_getV (pc1 := 142) (pc := 139) k_M_readLeaf_139 rfl f_M_271 rfl (by first | exact ga G (by decide) rfl | assumption) (by first | assumption | (simp (disch := omega) only [pI_eq, pI_row, pI_col, va_up_self, va_up_ne, ne_eq, not_false_eq_true] <;> rfl) | rfl) ?_ <;> try (refine T_iconst (v := (nI 1)) (pc1 := 143) (pc := 142) k_M_readLeaf_142 rfl (by decide) ?_ <;> try ((first | with_reducible refine T_iaddN (pc1 := 144) (pc := 143) k_M_readLeaf_143 (by decide) ?_ | refine T_iadd (pc1 := 144) (pc := 143) k_M_readLeaf_143 rfl ?_) <;> try (refine T_putI (pc1 := 147) (pc := 144) k_M_readLeaf_144 rfl f_M_271 rfl (by first | exact ga G (by decide) rfl | assumption) (by first | rfl | decide | assumption) (by first | rfl | decide | assumption) ?_ <;> try ((first | refine T_aload_n (pc1 := 148) (pc := 147) k_M_readLeaf_147 rfl rfl ?_ | refine T_aload_nN (pc1 := 148) (pc := 147) k_M_readLeaf_147 rfl rfl ?_) <;> try (refine T_iload_n (pc1 := 149) (pc := 148) k_M_readLeaf_148 rfl rfl ?_ <;> try ((first | (with_reducible refine T_if_geN (tgt := 156) (pc1 := 152) (pc := 149) k_M_readLeaf_149 (by decide) (by decide) (by omega) ?_ <;> first | (exfalso; omega) | skip) | refine T_if_ge_t (tgt := 156) (pc := 149) k_M_readLeaf_149 rfl (by decide) ?_ | refine T_if_ge_f (tgt := 156) (pc1 := 152) (pc := 149) k_M_readLeaf_149 rfl rfl (by decide) ?_ | refine T_if_ge (tgt := 156) (pc1 := 152) (pc := 149) k_M_readLeaf_149 rfl rfl (fun hc => ?_) (fun hc => ?_)))))))))))
          | (refine T_iload_n (pc1 := 153) (pc := 152) k_M_readLeaf_152 rfl rfl ?_ <;> try ((first | (with_reducible refine T_if_ltN (tgt := 160) (pc1 := 156) (pc := 153) k_M_readLeaf_153 (by decide) (by decide) (by omega) ?_ <;> first | (exfalso; omega) | skip) | refine T_if_lt_t (tgt := 160) (pc := 153) k_M_readLeaf_153 rfl (by decide) ?_ | refine T_if_lt_f (tgt := 160) (pc1 := 156) (pc := 153) k_M_readLeaf_153 rfl rfl (by decide) ?_ | refine T_if_lt (tgt := 160) (pc1 := 156) (pc := 153) k_M_readLeaf_153 rfl rfl (fun hc => ?_) (fun hc => ?_))))
          | (refine T_iconst (v := (nI 1)) (pc1 := 157) (pc := 156) k_M_readLeaf_156 rfl (by decide) ?_ <;> try (refine T_goto (tgt := 161) (pc := 157) k_M_readLeaf_157 rfl ?_))
          | (refine T_iconst (v := (nI 0)) (pc1 := 161) (pc := 160) k_M_readLeaf_160 rfl (by decide) ?_)
          | ((refine T_cV (As := [_]) (d1 := 4) (pc1 := 164) (pc := 161) k_M_readLeaf_161 rfl (by decide) (Nat.le_of_ble_eq_true rfl) rfl o_M_must l_M_249 rfl (by first | exact ga G (by decide) rfl | assumption) rfl (c_M_must1 (p := lf1 p) G okt hp hw (fun J hJ hJP => ?_)) <;> try dsimp only [psh]) <;> try ((first | refine T_aload_n (pc1 := 165) (pc := 164) k_M_readLeaf_164 rfl rfl ?_ | refine T_aload_nN (pc1 := 165) (pc := 164) k_M_readLeaf_164 rfl rfl ?_) <;> try (refine T_iload_n (pc1 := 166) (pc := 165) k_M_readLeaf_165 rfl rfl ?_ <;> try ((first | (with_reducible refine T_if_ltN (tgt := 173) (pc1 := 169) (pc := 166) k_M_readLeaf_166 (by decide) (by decide) (by omega) ?_ <;> first | (exfalso; omega) | skip) | refine T_if_lt_t (tgt := 173) (pc := 166) k_M_readLeaf_166 rfl (by decide) ?_ | refine T_if_lt_f (tgt := 173) (pc1 := 169) (pc := 166) k_M_readLeaf_166 rfl rfl (by decide) ?_ | refine T_if_lt (tgt := 173) (pc1 := 169) (pc := 166) k_M_readLeaf_166 rfl rfl (fun hc => ?_) (fun hc => ?_))))))
          | (refine T_iload_n (pc1 := 170) (pc := 169) k_M_readLeaf_169 rfl rfl ?_ <;> try (refine T_goto (tgt := 177) (pc := 170) k_M_readLeaf_170 rfl ?_))
          | (refine T_bipush (v := (-10)) (pc1 := 175) (pc := 173) k_M_readLeaf_173 rfl (by decide) ?_ <;> try (refine T_iload_n (pc1 := 176) (pc := 175) k_M_readLeaf_175 rfl rfl ?_ <;> try ((first | with_reducible refine T_iaddN (pc1 := 177) (pc := 176) k_M_readLeaf_176 (by decide) ?_ | refine T_iadd (pc1 := 177) (pc := 176) k_M_readLeaf_176 rfl ?_))))
          | ((refine T_cV (As := [_]) (d1 := 1) (pc1 := 180) (pc := 177) k_M_readLeaf_177 rfl (by decide) (Nat.le_of_ble_eq_true rfl) rfl o_M_step l_M_256 rfl (by first | exact ga G (by decide) rfl | assumption) rfl (c_M_stepO (p := nx T z (lf1 p)) G hJP hm (fun J2 hJ2 hJP2 => ?_)) <;> try dsimp only [psh]) <;> try (refine T_retV (pc := 180) k_M_readLeaf_180 rfl ?_))
          | refine T_dup (pc1 := 139) (pc := 138) k_M_readLeaf_138 rfl rfl ?_
          | refine T_getV (pc1 := 142) (pc := 139) k_M_readLeaf_139 rfl f_M_271 rfl (by first | exact ga G (by decide) rfl | assumption) (by first | assumption | (simp (disch := omega) only [pI_eq, pI_row, pI_col, va_up_self, va_up_ne, ne_eq, not_false_eq_true] <;> rfl) | rfl) ?_
          | refine T_iconst (v := (nI 1)) (pc1 := 143) (pc := 142) k_M_readLeaf_142 rfl (by decide) ?_
          | with_reducible refine T_iaddN (pc1 := 144) (pc := 143) k_M_readLeaf_143 (by decide) ?_
          | refine T_iadd (pc1 := 144) (pc := 143) k_M_readLeaf_143 rfl ?_
          | refine T_putI (pc1 := 147) (pc := 144) k_M_readLeaf_144 rfl f_M_271 rfl (by first | exact ga G (by decide) rfl | assumption) (by first | rfl | decide | assumption) (by first | rfl | decide | assumption) ?_
          | refine T_aload_n (pc1 := 148) (pc := 147) k_M_readLeaf_147 rfl rfl ?_
          | refine T_aload_nN (pc1 := 148) (pc := 147) k_M_readLeaf_147 rfl rfl ?_
          | refine T_iload_n (pc1 := 149) (pc := 148) k_M_readLeaf_148 rfl rfl ?_
          | (with_reducible refine T_if_geN (tgt := 156) (pc1 := 152) (pc := 149) k_M_readLeaf_149 (by decide) (by decide) (by omega) ?_ <;> first | (exfalso; omega) | skip)
          | refine T_if_ge_t (tgt := 156) (pc := 149) k_M_readLeaf_149 rfl (by decide) ?_
          | refine T_if_ge_f (tgt := 156) (pc1 := 152) (pc := 149) k_M_readLeaf_149 rfl rfl (by decide) ?_
          | refine T_if_ge (tgt := 156) (pc1 := 152) (pc := 149) k_M_readLeaf_149 rfl rfl (fun hc => ?_) (fun hc => ?_)
          | (with_reducible refine T_if_ltN (tgt := 160) (pc1 := 156) (pc := 153) k_M_readLeaf_153 (by decide) (by decide) (by omega) ?_ <;> first | (exfalso; omega) | skip)
          | refine T_if_lt_t (tgt := 160) (pc := 153) k_M_readLeaf_153 rfl (by decide) ?_
          | refine T_if_lt_f (tgt := 160) (pc1 := 156) (pc := 153) k_M_readLeaf_153 rfl rfl (by decide) ?_
          | refine T_if_lt (tgt := 160) (pc1 := 156) (pc := 153) k_M_readLeaf_153 rfl rfl (fun hc => ?_) (fun hc => ?_)
          | refine T_goto (tgt := 161) (pc := 157) k_M_readLeaf_157 rfl ?_
          | refine T_aload_n (pc1 := 165) (pc := 164) k_M_readLeaf_164 rfl rfl ?_
          | refine T_aload_nN (pc1 := 165) (pc := 164) k_M_readLeaf_164 rfl rfl ?_
          | refine T_iload_n (pc1 := 166) (pc := 165) k_M_readLeaf_165 rfl rfl ?_
          | (with_reducible refine T_if_ltN (tgt := 173) (pc1 := 169) (pc := 166) k_M_readLeaf_166 (by decide) (by decide) (by omega) ?_ <;> first | (exfalso; omega) | skip)
          | refine T_if_lt_t (tgt := 173) (pc := 166) k_M_readLeaf_166 rfl (by decide) ?_
          | refine T_if_lt_f (tgt := 173) (pc1 := 169) (pc := 166) k_M_readLeaf_166 rfl rfl (by decide) ?_
          | refine T_if_lt (tgt := 173) (pc1 := 169) (pc := 166) k_M_readLeaf_166 rfl rfl (fun hc => ?_) (fun hc => ?_)
          | refine T_goto (tgt := 177) (pc := 170) k_M_readLeaf_170 rfl ?_
          | refine T_iload_n (pc1 := 176) (pc := 175) k_M_readLeaf_175 rfl rfl ?_
          | with_reducible refine T_iaddN (pc1 := 177) (pc := 176) k_M_readLeaf_176 (by decide) ?_
          | refine T_iadd (pc1 := 177) (pc := 176) k_M_readLeaf_176 rfl ?_
          | refine T_retV (pc := 180) k_M_readLeaf_180 rfl ?_)
        exact k0 _ J2 hc (FrM_tr (FrM_tr (FrM_p FrM_rf (by decide)) hJ) hJ2) hJP2
    · have hN : lfN T key p = -1 := if_neg c1
      have hc : lfC T key p = none := by rw [lfC, if_neg c2, if_neg c1]
      rw [hN]
      repeat' (first
        | ((first | refine T_aload_n (pc1 := 138) (pc := 137) k_M_readLeaf_137 rfl rfl ?_ | refine T_aload_nN (pc1 := 138) (pc := 137) k_M_readLeaf_137 rfl rfl ?_) <;> try (refine T_dup (pc1 := 139) (pc := 138) k_M_readLeaf_138 rfl rfl ?_ <;> try (refine T_getV (pc1 := 142) (pc := 139) k_M_readLeaf_139 rfl f_M_271 rfl (by first | exact ga G (by decide) rfl | assumption) (by first | assumption | (simp (disch := omega) only [pI_eq, pI_row, pI_col, va_up_self, va_up_ne, ne_eq, not_false_eq_true] <;> rfl) | rfl) ?_ <;> try (refine T_iconst (v := (nI 1)) (pc1 := 143) (pc := 142) k_M_readLeaf_142 rfl (by decide) ?_ <;> try ((first | with_reducible refine T_iaddN (pc1 := 144) (pc := 143) k_M_readLeaf_143 (by decide) ?_ | refine T_iadd (pc1 := 144) (pc := 143) k_M_readLeaf_143 rfl ?_) <;> try (refine T_putI (pc1 := 147) (pc := 144) k_M_readLeaf_144 rfl f_M_271 rfl (by first | exact ga G (by decide) rfl | assumption) (by first | rfl | decide | assumption) (by first | rfl | decide | assumption) ?_ <;> try ((first | refine T_aload_n (pc1 := 148) (pc := 147) k_M_readLeaf_147 rfl rfl ?_ | refine T_aload_nN (pc1 := 148) (pc := 147) k_M_readLeaf_147 rfl rfl ?_) <;> try (refine T_iload_n (pc1 := 149) (pc := 148) k_M_readLeaf_148 rfl rfl ?_ <;> try ((first | (with_reducible refine T_if_geN (tgt := 156) (pc1 := 152) (pc := 149) k_M_readLeaf_149 (by decide) (by decide) (by omega) ?_ <;> first | (exfalso; omega) | skip) | refine T_if_ge_t (tgt := 156) (pc := 149) k_M_readLeaf_149 rfl (by decide) ?_ | refine T_if_ge_f (tgt := 156) (pc1 := 152) (pc := 149) k_M_readLeaf_149 rfl rfl (by decide) ?_ | refine T_if_ge (tgt := 156) (pc1 := 152) (pc := 149) k_M_readLeaf_149 rfl rfl (fun hc => ?_) (fun hc => ?_)))))))))))
        | (refine T_iload_n (pc1 := 153) (pc := 152) k_M_readLeaf_152 rfl rfl ?_ <;> try ((first | (with_reducible refine T_if_ltN (tgt := 160) (pc1 := 156) (pc := 153) k_M_readLeaf_153 (by decide) (by decide) (by omega) ?_ <;> first | (exfalso; omega) | skip) | refine T_if_lt_t (tgt := 160) (pc := 153) k_M_readLeaf_153 rfl (by decide) ?_ | refine T_if_lt_f (tgt := 160) (pc1 := 156) (pc := 153) k_M_readLeaf_153 rfl rfl (by decide) ?_ | refine T_if_lt (tgt := 160) (pc1 := 156) (pc := 153) k_M_readLeaf_153 rfl rfl (fun hc => ?_) (fun hc => ?_))))
        | (refine T_iconst (v := (nI 1)) (pc1 := 157) (pc := 156) k_M_readLeaf_156 rfl (by decide) ?_ <;> try (refine T_goto (tgt := 161) (pc := 157) k_M_readLeaf_157 rfl ?_))
        | (refine T_iconst (v := (nI 0)) (pc1 := 161) (pc := 160) k_M_readLeaf_160 rfl (by decide) ?_)
        | ((refine T_cV (As := [_]) (d1 := 4) (pc1 := 164) (pc := 161) k_M_readLeaf_161 rfl (by decide) (Nat.le_of_ble_eq_true rfl) rfl o_M_must l_M_249 rfl (by first | exact ga G (by decide) rfl | assumption) rfl (c_M_must0 G hp (fun J hJ hJP => ?_)) <;> try dsimp only [psh]) <;> try ((first | refine T_aload_n (pc1 := 165) (pc := 164) k_M_readLeaf_164 rfl rfl ?_ | refine T_aload_nN (pc1 := 165) (pc := 164) k_M_readLeaf_164 rfl rfl ?_) <;> try (refine T_iload_n (pc1 := 166) (pc := 165) k_M_readLeaf_165 rfl rfl ?_ <;> try ((first | (with_reducible refine T_if_ltN (tgt := 173) (pc1 := 169) (pc := 166) k_M_readLeaf_166 (by decide) (by decide) (by omega) ?_ <;> first | (exfalso; omega) | skip) | refine T_if_lt_t (tgt := 173) (pc := 166) k_M_readLeaf_166 rfl (by decide) ?_ | refine T_if_lt_f (tgt := 173) (pc1 := 169) (pc := 166) k_M_readLeaf_166 rfl rfl (by decide) ?_ | refine T_if_lt (tgt := 173) (pc1 := 169) (pc := 166) k_M_readLeaf_166 rfl rfl (fun hc => ?_) (fun hc => ?_))))))
        | (refine T_iload_n (pc1 := 170) (pc := 169) k_M_readLeaf_169 rfl rfl ?_ <;> try (refine T_goto (tgt := 177) (pc := 170) k_M_readLeaf_170 rfl ?_))
        | (refine T_bipush (v := (-10)) (pc1 := 175) (pc := 173) k_M_readLeaf_173 rfl (by decide) ?_ <;> try (refine T_iload_n (pc1 := 176) (pc := 175) k_M_readLeaf_175 rfl rfl ?_ <;> try ((first | with_reducible refine T_iaddN (pc1 := 177) (pc := 176) k_M_readLeaf_176 (by decide) ?_ | refine T_iadd (pc1 := 177) (pc := 176) k_M_readLeaf_176 rfl ?_))))
        | ((refine T_cV (As := [_]) (d1 := 1) (pc1 := 180) (pc := 177) k_M_readLeaf_177 rfl (by decide) (Nat.le_of_ble_eq_true rfl) rfl o_M_step l_M_256 rfl (by first | exact ga G (by decide) rfl | assumption) rfl (c_M_stepW G hJP ?_) <;> try dsimp only [psh]) <;> try (refine T_retV (pc := 180) k_M_readLeaf_180 rfl ?_))
        | refine T_dup (pc1 := 139) (pc := 138) k_M_readLeaf_138 rfl rfl ?_
        | refine T_getV (pc1 := 142) (pc := 139) k_M_readLeaf_139 rfl f_M_271 rfl (by first | exact ga G (by decide) rfl | assumption) (by first | assumption | (simp (disch := omega) only [pI_eq, pI_row, pI_col, va_up_self, va_up_ne, ne_eq, not_false_eq_true] <;> rfl) | rfl) ?_
        | refine T_iconst (v := (nI 1)) (pc1 := 143) (pc := 142) k_M_readLeaf_142 rfl (by decide) ?_
        | with_reducible refine T_iaddN (pc1 := 144) (pc := 143) k_M_readLeaf_143 (by decide) ?_
        | refine T_iadd (pc1 := 144) (pc := 143) k_M_readLeaf_143 rfl ?_
        | refine T_putI (pc1 := 147) (pc := 144) k_M_readLeaf_144 rfl f_M_271 rfl (by first | exact ga G (by decide) rfl | assumption) (by first | rfl | decide | assumption) (by first | rfl | decide | assumption) ?_
        | refine T_aload_n (pc1 := 148) (pc := 147) k_M_readLeaf_147 rfl rfl ?_
        | refine T_aload_nN (pc1 := 148) (pc := 147) k_M_readLeaf_147 rfl rfl ?_
        | refine T_iload_n (pc1 := 149) (pc := 148) k_M_readLeaf_148 rfl rfl ?_
        | (with_reducible refine T_if_geN (tgt := 156) (pc1 := 152) (pc := 149) k_M_readLeaf_149 (by decide) (by decide) (by omega) ?_ <;> first | (exfalso; omega) | skip)
        | refine T_if_ge_t (tgt := 156) (pc := 149) k_M_readLeaf_149 rfl (by decide) ?_
        | refine T_if_ge_f (tgt := 156) (pc1 := 152) (pc := 149) k_M_readLeaf_149 rfl rfl (by decide) ?_
        | refine T_if_ge (tgt := 156) (pc1 := 152) (pc := 149) k_M_readLeaf_149 rfl rfl (fun hc => ?_) (fun hc => ?_)
        | (with_reducible refine T_if_ltN (tgt := 160) (pc1 := 156) (pc := 153) k_M_readLeaf_153 (by decide) (by decide) (by omega) ?_ <;> first | (exfalso; omega) | skip)
        | refine T_if_lt_t (tgt := 160) (pc := 153) k_M_readLeaf_153 rfl (by decide) ?_
        | refine T_if_lt_f (tgt := 160) (pc1 := 156) (pc := 153) k_M_readLeaf_153 rfl rfl (by decide) ?_
        | refine T_if_lt (tgt := 160) (pc1 := 156) (pc := 153) k_M_readLeaf_153 rfl rfl (fun hc => ?_) (fun hc => ?_)
        | refine T_goto (tgt := 161) (pc := 157) k_M_readLeaf_157 rfl ?_
        | refine T_aload_n (pc1 := 165) (pc := 164) k_M_readLeaf_164 rfl rfl ?_
        | refine T_aload_nN (pc1 := 165) (pc := 164) k_M_readLeaf_164 rfl rfl ?_
        | refine T_iload_n (pc1 := 166) (pc := 165) k_M_readLeaf_165 rfl rfl ?_
        | (with_reducible refine T_if_ltN (tgt := 173) (pc1 := 169) (pc := 166) k_M_readLeaf_166 (by decide) (by decide) (by omega) ?_ <;> first | (exfalso; omega) | skip)
        | refine T_if_lt_t (tgt := 173) (pc := 166) k_M_readLeaf_166 rfl (by decide) ?_
        | refine T_if_lt_f (tgt := 173) (pc1 := 169) (pc := 166) k_M_readLeaf_166 rfl rfl (by decide) ?_
        | refine T_if_lt (tgt := 173) (pc1 := 169) (pc := 166) k_M_readLeaf_166 rfl rfl (fun hc => ?_) (fun hc => ?_)
        | refine T_goto (tgt := 177) (pc := 170) k_M_readLeaf_170 rfl ?_
        | refine T_iload_n (pc1 := 176) (pc := 175) k_M_readLeaf_175 rfl rfl ?_
        | with_reducible refine T_iaddN (pc1 := 177) (pc := 176) k_M_readLeaf_176 (by decide) ?_
        | refine T_iadd (pc1 := 177) (pc := 176) k_M_readLeaf_176 rfl ?_
        | refine T_retV (pc := 180) k_M_readLeaf_180 rfl ?_)
      exact k1 J hc (FrM_tr (FrM_p FrM_rf (by decide)) hJ) hJP
theorem c_M_readPieceW {I : IM} {K : Option Value → Geo → IM → Prop} {p : PS} (G : GeoOK g) (hF : g.1.2.2.category = 1) (okt : okTp T z) (hk : key < 3) (h : PMw T z key p I) (hw : wfP T z p) (kk : ∀ J, FrM I J → PMw T z key p J → K none g J) : Cl 20 M_M_readPiece [.ref 101] g I K := by
  show Rl 20 M_M_readPiece 0 [some (.ref 101)] [] g I K
  repeat' (first
    | ((first | refine T_aload_n (pc1 := 1) (pc := 0) k_M_readPiece_0 rfl rfl ?_ | refine T_aload_nN (pc1 := 1) (pc := 0) k_M_readPiece_0 rfl rfl ?_) <;> try (refine T_bipush (v := (nI 33)) (pc1 := 3) (pc := 1) k_M_readPiece_1 rfl (by decide) ?_ <;> try ((refine T_cV (As := [_]) (d1 := 1) (pc1 := 6) (pc := 3) k_M_readPiece_3 rfl (by decide) (Nat.le_of_ble_eq_true rfl) rfl o_M_isSign l_M_243 rfl (by first | exact ga G (by decide) rfl | assumption) rfl (c_M_isSignW G h ?_) <;> try dsimp only [psh]) <;> try ((first | (with_reducible refine T_if_eqN (tgt := 60) (pc1 := 9) (pc := 6) k_M_readPiece_6 (by decide) (by decide) (by omega) (fun hc => ?_) (fun hc => ?_) <;> first | (exfalso; omega) | skip) | refine T_if_eq_t (tgt := 60) (pc := 6) k_M_readPiece_6 rfl (by decide) ?_ | refine T_if_eq_f (tgt := 60) (pc1 := 9) (pc := 6) k_M_readPiece_6 rfl rfl (by decide) ?_ | refine T_if_eq (tgt := 60) (pc1 := 9) (pc := 6) k_M_readPiece_6 rfl rfl (fun hc => ?_) (fun hc => ?_))))))
    | ((first | refine T_aload_n (pc1 := 10) (pc := 9) k_M_readPiece_9 rfl rfl ?_ | refine T_aload_nN (pc1 := 10) (pc := 9) k_M_readPiece_9 rfl rfl ?_) <;> try ((first | refine T_aload_n (pc1 := 11) (pc := 10) k_M_readPiece_10 rfl rfl ?_ | refine T_aload_nN (pc1 := 11) (pc := 10) k_M_readPiece_10 rfl rfl ?_) <;> try (refine T_getV (pc1 := 14) (pc := 11) k_M_readPiece_11 rfl f_M_246 rfl (by first | exact ga G (by decide) rfl | assumption) (by first | assumption | (simp (disch := omega) only [pI_eq, pI_row, pI_col, va_up_self, va_up_ne, ne_eq, not_false_eq_true] <;> rfl) | rfl) ?_ <;> try (refine T_bipush (v := (nI 8)) (pc1 := 16) (pc := 14) k_M_readPiece_14 rfl (by decide) ?_ <;> try ((first | (with_reducible refine T_icmp_geN (tgt := 23) (pc1 := 19) (pc := 16) k_M_readPiece_16 (by decide) (by decide) (by omega) (by omega) (fun hc => ?_) (fun hc => ?_) <;> first | (exfalso; omega) | skip) | refine T_icmp_ge_t (tgt := 23) (pc := 16) k_M_readPiece_16 rfl (by decide) ?_ | refine T_icmp_ge_f (tgt := 23) (pc1 := 19) (pc := 16) k_M_readPiece_16 rfl rfl (by decide) ?_ | refine T_icmp_ge (tgt := 23) (pc1 := 19) (pc := 16) k_M_readPiece_16 rfl rfl (fun hc => ?_) (fun hc => ?_)))))))
    | (refine T_iconst (v := (nI 1)) (pc1 := 20) (pc := 19) k_M_readPiece_19 rfl (by decide) ?_ <;> try (refine T_goto (tgt := 24) (pc := 20) k_M_readPiece_20 rfl ?_))
    | (refine T_iconst (v := (nI 0)) (pc1 := 24) (pc := 23) k_M_readPiece_23 rfl (by decide) ?_)
    | ((first | refine T_aload_n (pc1 := 28) (pc := 27) k_M_readPiece_27 rfl rfl ?_ | refine T_aload_nN (pc1 := 28) (pc := 27) k_M_readPiece_27 rfl rfl ?_) <;> try (refine T_dup (pc1 := 29) (pc := 28) k_M_readPiece_28 rfl rfl ?_ <;> try (refine T_getV (pc1 := 32) (pc := 29) k_M_readPiece_29 rfl f_M_246 rfl (by first | exact ga G (by decide) rfl | assumption) (by first | assumption | (simp (disch := omega) only [pI_eq, pI_row, pI_col, va_up_self, va_up_ne, ne_eq, not_false_eq_true] <;> rfl) | rfl) ?_ <;> try (refine T_iconst (v := (nI 1)) (pc1 := 33) (pc := 32) k_M_readPiece_32 rfl (by decide) ?_ <;> try ((first | with_reducible refine T_iaddN (pc1 := 34) (pc := 33) k_M_readPiece_33 (by decide) ?_ | refine T_iadd (pc1 := 34) (pc := 33) k_M_readPiece_33 rfl ?_) <;> try (refine T_putI (pc1 := 37) (pc := 34) k_M_readPiece_34 rfl f_M_246 rfl (by first | exact ga G (by decide) rfl | assumption) (by first | rfl | decide | assumption) (by first | rfl | decide | assumption) ?_ <;> try ((first | refine T_aload_n (pc1 := 38) (pc := 37) k_M_readPiece_37 rfl rfl ?_ | refine T_aload_nN (pc1 := 38) (pc := 37) k_M_readPiece_37 rfl rfl ?_))))))))
    | ((first | refine T_aload_n (pc1 := 42) (pc := 41) k_M_readPiece_41 rfl rfl ?_ | refine T_aload_nN (pc1 := 42) (pc := 41) k_M_readPiece_41 rfl rfl ?_) <;> try (refine T_dup (pc1 := 43) (pc := 42) k_M_readPiece_42 rfl rfl ?_ <;> try (refine T_getV (pc1 := 46) (pc := 43) k_M_readPiece_43 rfl f_M_246 rfl (by first | exact ga G (by decide) rfl | assumption) (by first | assumption | (simp (disch := omega) only [pI_eq, pI_row, pI_col, va_up_self, va_up_ne, ne_eq, not_false_eq_true] <;> rfl) | rfl) ?_ <;> try (refine T_iconst (v := (nI 1)) (pc1 := 47) (pc := 46) k_M_readPiece_46 rfl (by decide) ?_ <;> try ((first | with_reducible refine T_isubN (pc1 := 48) (pc := 47) k_M_readPiece_47 (by decide) (by omega) ?_ | refine T_isub (pc1 := 48) (pc := 47) k_M_readPiece_47 rfl ?_) <;> try (refine T_putI (pc1 := 51) (pc := 48) k_M_readPiece_48 rfl f_M_246 rfl (by first | exact ga G (by decide) rfl | assumption) (by first | rfl | decide | assumption) (by first | rfl | decide | assumption) ?_ <;> try ((first | refine T_aload_n (pc1 := 52) (pc := 51) k_M_readPiece_51 rfl rfl ?_ | refine T_aload_nN (pc1 := 52) (pc := 51) k_M_readPiece_51 rfl rfl ?_) <;> try (refine T_bipush (v := (-29)) (pc1 := 54) (pc := 52) k_M_readPiece_52 rfl (by decide) ?_))))))))
    | (refine T_goto (tgt := 128) (pc := 57) k_M_readPiece_57 rfl ?_)
    | ((first | refine T_aload_n (pc1 := 61) (pc := 60) k_M_readPiece_60 rfl rfl ?_ | refine T_aload_nN (pc1 := 61) (pc := 60) k_M_readPiece_60 rfl rfl ?_) <;> try (refine T_bipush (v := (nI 40)) (pc1 := 63) (pc := 61) k_M_readPiece_61 rfl (by decide) ?_ <;> try ((refine T_cV (As := [_]) (d1 := 1) (pc1 := 66) (pc := 63) k_M_readPiece_63 rfl (by decide) (Nat.le_of_ble_eq_true rfl) rfl o_M_isSign l_M_243 rfl (by first | exact ga G (by decide) rfl | assumption) rfl (c_M_isSignW G h ?_) <;> try dsimp only [psh]) <;> try ((first | (with_reducible refine T_if_eqN (tgt := 124) (pc1 := 69) (pc := 66) k_M_readPiece_66 (by decide) (by decide) (by omega) (fun hc => ?_) (fun hc => ?_) <;> first | (exfalso; omega) | skip) | refine T_if_eq_t (tgt := 124) (pc := 66) k_M_readPiece_66 rfl (by decide) ?_ | refine T_if_eq_f (tgt := 124) (pc1 := 69) (pc := 66) k_M_readPiece_66 rfl rfl (by decide) ?_ | refine T_if_eq (tgt := 124) (pc1 := 69) (pc := 66) k_M_readPiece_66 rfl rfl (fun hc => ?_) (fun hc => ?_))))))
    | ((first | refine T_aload_n (pc1 := 70) (pc := 69) k_M_readPiece_69 rfl rfl ?_ | refine T_aload_nN (pc1 := 70) (pc := 69) k_M_readPiece_69 rfl rfl ?_) <;> try ((first | refine T_aload_n (pc1 := 71) (pc := 70) k_M_readPiece_70 rfl rfl ?_ | refine T_aload_nN (pc1 := 71) (pc := 70) k_M_readPiece_70 rfl rfl ?_) <;> try (refine T_getV (pc1 := 74) (pc := 71) k_M_readPiece_71 rfl f_M_259 rfl (by first | exact ga G (by decide) rfl | assumption) (by first | assumption | (simp (disch := omega) only [pI_eq, pI_row, pI_col, va_up_self, va_up_ne, ne_eq, not_false_eq_true] <;> rfl) | rfl) ?_ <;> try (refine T_bipush (v := (nI 8)) (pc1 := 76) (pc := 74) k_M_readPiece_74 rfl (by decide) ?_ <;> try ((first | (with_reducible refine T_icmp_geN (tgt := 83) (pc1 := 79) (pc := 76) k_M_readPiece_76 (by decide) (by decide) (by omega) (by omega) (fun hc => ?_) (fun hc => ?_) <;> first | (exfalso; omega) | skip) | refine T_icmp_ge_t (tgt := 83) (pc := 76) k_M_readPiece_76 rfl (by decide) ?_ | refine T_icmp_ge_f (tgt := 83) (pc1 := 79) (pc := 76) k_M_readPiece_76 rfl rfl (by decide) ?_ | refine T_icmp_ge (tgt := 83) (pc1 := 79) (pc := 76) k_M_readPiece_76 rfl rfl (fun hc => ?_) (fun hc => ?_)))))))
    | (refine T_iconst (v := (nI 1)) (pc1 := 80) (pc := 79) k_M_readPiece_79 rfl (by decide) ?_ <;> try (refine T_goto (tgt := 84) (pc := 80) k_M_readPiece_80 rfl ?_))
    | (refine T_iconst (v := (nI 0)) (pc1 := 84) (pc := 83) k_M_readPiece_83 rfl (by decide) ?_)
    | ((first | refine T_aload_n (pc1 := 88) (pc := 87) k_M_readPiece_87 rfl rfl ?_ | refine T_aload_nN (pc1 := 88) (pc := 87) k_M_readPiece_87 rfl rfl ?_) <;> try (refine T_dup (pc1 := 89) (pc := 88) k_M_readPiece_88 rfl rfl ?_ <;> try (refine T_getV (pc1 := 92) (pc := 89) k_M_readPiece_89 rfl f_M_259 rfl (by first | exact ga G (by decide) rfl | assumption) (by first | assumption | (simp (disch := omega) only [pI_eq, pI_row, pI_col, va_up_self, va_up_ne, ne_eq, not_false_eq_true] <;> rfl) | rfl) ?_ <;> try (refine T_iconst (v := (nI 1)) (pc1 := 93) (pc := 92) k_M_readPiece_92 rfl (by decide) ?_ <;> try ((first | with_reducible refine T_iaddN (pc1 := 94) (pc := 93) k_M_readPiece_93 (by decide) ?_ | refine T_iadd (pc1 := 94) (pc := 93) k_M_readPiece_93 rfl ?_) <;> try (refine T_putI (pc1 := 97) (pc := 94) k_M_readPiece_94 rfl f_M_259 rfl (by first | exact ga G (by decide) rfl | assumption) (by first | rfl | decide | assumption) (by first | rfl | decide | assumption) ?_ <;> try ((first | refine T_aload_n (pc1 := 98) (pc := 97) k_M_readPiece_97 rfl rfl ?_ | refine T_aload_nN (pc1 := 98) (pc := 97) k_M_readPiece_97 rfl rfl ?_))))))))
    | ((first | refine T_aload_n (pc1 := 102) (pc := 101) k_M_readPiece_101 rfl rfl ?_ | refine T_aload_nN (pc1 := 102) (pc := 101) k_M_readPiece_101 rfl rfl ?_) <;> try ((first | refine T_aload_n (pc1 := 103) (pc := 102) k_M_readPiece_102 rfl rfl ?_ | refine T_aload_nN (pc1 := 103) (pc := 102) k_M_readPiece_102 rfl rfl ?_) <;> try (refine T_bipush (v := (nI 41)) (pc1 := 105) (pc := 103) k_M_readPiece_103 rfl (by decide) ?_)))
    | ((first | refine T_aload_n (pc1 := 112) (pc := 111) k_M_readPiece_111 rfl rfl ?_ | refine T_aload_nN (pc1 := 112) (pc := 111) k_M_readPiece_111 rfl rfl ?_) <;> try (refine T_dup (pc1 := 113) (pc := 112) k_M_readPiece_112 rfl rfl ?_ <;> try (refine T_getV (pc1 := 116) (pc := 113) k_M_readPiece_113 rfl f_M_259 rfl (by first | exact ga G (by decide) rfl | assumption) (by first | assumption | (simp (disch := omega) only [pI_eq, pI_row, pI_col, va_up_self, va_up_ne, ne_eq, not_false_eq_true] <;> rfl) | rfl) ?_ <;> try (refine T_iconst (v := (nI 1)) (pc1 := 117) (pc := 116) k_M_readPiece_116 rfl (by decide) ?_ <;> try ((first | with_reducible refine T_isubN (pc1 := 118) (pc := 117) k_M_readPiece_117 (by decide) (by omega) ?_ | refine T_isub (pc1 := 118) (pc := 117) k_M_readPiece_117 rfl ?_) <;> try (refine T_putI (pc1 := 121) (pc := 118) k_M_readPiece_118 rfl f_M_259 rfl (by first | exact ga G (by decide) rfl | assumption) (by first | rfl | decide | assumption) (by first | rfl | decide | assumption) ?_ <;> try (refine T_goto (tgt := 128) (pc := 121) k_M_readPiece_121 rfl ?_)))))))
    | ((first | refine T_aload_n (pc1 := 125) (pc := 124) k_M_readPiece_124 rfl rfl ?_ | refine T_aload_nN (pc1 := 125) (pc := 124) k_M_readPiece_124 rfl rfl ?_) <;> try ((refine T_cV (As := []) (d1 := 5) (pc1 := 128) (pc := 125) k_M_readPiece_125 rfl (by decide) (Nat.le_of_ble_eq_true rfl) rfl o_M_readLeaf l_M_265 rfl (by first | exact ga G (by decide) rfl | assumption) rfl (c_M_readLeafW G hF okt hk h hw (fun J hJ hJP => ?_)) <;> try dsimp only [psh])))
    | (refine T_retV (pc := 128) k_M_readPiece_128 rfl ?_)
    | refine T_bipush (v := (nI 33)) (pc1 := 3) (pc := 1) k_M_readPiece_1 rfl (by decide) ?_
    | (refine T_cV (As := [_]) (d1 := 1) (pc1 := 6) (pc := 3) k_M_readPiece_3 rfl (by decide) (Nat.le_of_ble_eq_true rfl) rfl o_M_isSign l_M_243 rfl (by first | exact ga G (by decide) rfl | assumption) rfl (c_M_isSignW G h ?_) <;> try dsimp only [psh])
    | (with_reducible refine T_if_eqN (tgt := 60) (pc1 := 9) (pc := 6) k_M_readPiece_6 (by decide) (by decide) (by omega) (fun hc => ?_) (fun hc => ?_) <;> first | (exfalso; omega) | skip)
    | refine T_if_eq_t (tgt := 60) (pc := 6) k_M_readPiece_6 rfl (by decide) ?_
    | refine T_if_eq_f (tgt := 60) (pc1 := 9) (pc := 6) k_M_readPiece_6 rfl rfl (by decide) ?_
    | refine T_if_eq (tgt := 60) (pc1 := 9) (pc := 6) k_M_readPiece_6 rfl rfl (fun hc => ?_) (fun hc => ?_)
    | refine T_aload_n (pc1 := 11) (pc := 10) k_M_readPiece_10 rfl rfl ?_
    | refine T_aload_nN (pc1 := 11) (pc := 10) k_M_readPiece_10 rfl rfl ?_
    | refine T_getV (pc1 := 14) (pc := 11) k_M_readPiece_11 rfl f_M_246 rfl (by first | exact ga G (by decide) rfl | assumption) (by first | assumption | (simp (disch := omega) only [pI_eq, pI_row, pI_col, va_up_self, va_up_ne, ne_eq, not_false_eq_true] <;> rfl) | rfl) ?_
    | refine T_bipush (v := (nI 8)) (pc1 := 16) (pc := 14) k_M_readPiece_14 rfl (by decide) ?_
    | (with_reducible refine T_icmp_geN (tgt := 23) (pc1 := 19) (pc := 16) k_M_readPiece_16 (by decide) (by decide) (by omega) (by omega) (fun hc => ?_) (fun hc => ?_) <;> first | (exfalso; omega) | skip)
    | refine T_icmp_ge_t (tgt := 23) (pc := 16) k_M_readPiece_16 rfl (by decide) ?_
    | refine T_icmp_ge_f (tgt := 23) (pc1 := 19) (pc := 16) k_M_readPiece_16 rfl rfl (by decide) ?_
    | refine T_icmp_ge (tgt := 23) (pc1 := 19) (pc := 16) k_M_readPiece_16 rfl rfl (fun hc => ?_) (fun hc => ?_)
    | refine T_goto (tgt := 24) (pc := 20) k_M_readPiece_20 rfl ?_
    | refine T_dup (pc1 := 29) (pc := 28) k_M_readPiece_28 rfl rfl ?_
    | refine T_getV (pc1 := 32) (pc := 29) k_M_readPiece_29 rfl f_M_246 rfl (by first | exact ga G (by decide) rfl | assumption) (by first | assumption | (simp (disch := omega) only [pI_eq, pI_row, pI_col, va_up_self, va_up_ne, ne_eq, not_false_eq_true] <;> rfl) | rfl) ?_
    | refine T_iconst (v := (nI 1)) (pc1 := 33) (pc := 32) k_M_readPiece_32 rfl (by decide) ?_
    | with_reducible refine T_iaddN (pc1 := 34) (pc := 33) k_M_readPiece_33 (by decide) ?_
    | refine T_iadd (pc1 := 34) (pc := 33) k_M_readPiece_33 rfl ?_
    | refine T_putI (pc1 := 37) (pc := 34) k_M_readPiece_34 rfl f_M_246 rfl (by first | exact ga G (by decide) rfl | assumption) (by first | rfl | decide | assumption) (by first | rfl | decide | assumption) ?_
    | refine T_aload_n (pc1 := 38) (pc := 37) k_M_readPiece_37 rfl rfl ?_
    | refine T_aload_nN (pc1 := 38) (pc := 37) k_M_readPiece_37 rfl rfl ?_
    | refine T_dup (pc1 := 43) (pc := 42) k_M_readPiece_42 rfl rfl ?_
    | refine T_getV (pc1 := 46) (pc := 43) k_M_readPiece_43 rfl f_M_246 rfl (by first | exact ga G (by decide) rfl | assumption) (by first | assumption | (simp (disch := omega) only [pI_eq, pI_row, pI_col, va_up_self, va_up_ne, ne_eq, not_false_eq_true] <;> rfl) | rfl) ?_
    | refine T_iconst (v := (nI 1)) (pc1 := 47) (pc := 46) k_M_readPiece_46 rfl (by decide) ?_
    | with_reducible refine T_isubN (pc1 := 48) (pc := 47) k_M_readPiece_47 (by decide) (by omega) ?_
    | refine T_isub (pc1 := 48) (pc := 47) k_M_readPiece_47 rfl ?_
    | refine T_putI (pc1 := 51) (pc := 48) k_M_readPiece_48 rfl f_M_246 rfl (by first | exact ga G (by decide) rfl | assumption) (by first | rfl | decide | assumption) (by first | rfl | decide | assumption) ?_
    | refine T_aload_n (pc1 := 52) (pc := 51) k_M_readPiece_51 rfl rfl ?_
    | refine T_aload_nN (pc1 := 52) (pc := 51) k_M_readPiece_51 rfl rfl ?_
    | refine T_bipush (v := (-29)) (pc1 := 54) (pc := 52) k_M_readPiece_52 rfl (by decide) ?_
    | refine T_bipush (v := (nI 40)) (pc1 := 63) (pc := 61) k_M_readPiece_61 rfl (by decide) ?_
    | (refine T_cV (As := [_]) (d1 := 1) (pc1 := 66) (pc := 63) k_M_readPiece_63 rfl (by decide) (Nat.le_of_ble_eq_true rfl) rfl o_M_isSign l_M_243 rfl (by first | exact ga G (by decide) rfl | assumption) rfl (c_M_isSignW G h ?_) <;> try dsimp only [psh])
    | (with_reducible refine T_if_eqN (tgt := 124) (pc1 := 69) (pc := 66) k_M_readPiece_66 (by decide) (by decide) (by omega) (fun hc => ?_) (fun hc => ?_) <;> first | (exfalso; omega) | skip)
    | refine T_if_eq_t (tgt := 124) (pc := 66) k_M_readPiece_66 rfl (by decide) ?_
    | refine T_if_eq_f (tgt := 124) (pc1 := 69) (pc := 66) k_M_readPiece_66 rfl rfl (by decide) ?_
    | refine T_if_eq (tgt := 124) (pc1 := 69) (pc := 66) k_M_readPiece_66 rfl rfl (fun hc => ?_) (fun hc => ?_)
    | refine T_aload_n (pc1 := 71) (pc := 70) k_M_readPiece_70 rfl rfl ?_
    | refine T_aload_nN (pc1 := 71) (pc := 70) k_M_readPiece_70 rfl rfl ?_
    | refine T_getV (pc1 := 74) (pc := 71) k_M_readPiece_71 rfl f_M_259 rfl (by first | exact ga G (by decide) rfl | assumption) (by first | assumption | (simp (disch := omega) only [pI_eq, pI_row, pI_col, va_up_self, va_up_ne, ne_eq, not_false_eq_true] <;> rfl) | rfl) ?_
    | refine T_bipush (v := (nI 8)) (pc1 := 76) (pc := 74) k_M_readPiece_74 rfl (by decide) ?_
    | (with_reducible refine T_icmp_geN (tgt := 83) (pc1 := 79) (pc := 76) k_M_readPiece_76 (by decide) (by decide) (by omega) (by omega) (fun hc => ?_) (fun hc => ?_) <;> first | (exfalso; omega) | skip)
    | refine T_icmp_ge_t (tgt := 83) (pc := 76) k_M_readPiece_76 rfl (by decide) ?_
    | refine T_icmp_ge_f (tgt := 83) (pc1 := 79) (pc := 76) k_M_readPiece_76 rfl rfl (by decide) ?_
    | refine T_icmp_ge (tgt := 83) (pc1 := 79) (pc := 76) k_M_readPiece_76 rfl rfl (fun hc => ?_) (fun hc => ?_)
    | refine T_goto (tgt := 84) (pc := 80) k_M_readPiece_80 rfl ?_
    | refine T_dup (pc1 := 89) (pc := 88) k_M_readPiece_88 rfl rfl ?_
    | refine T_getV (pc1 := 92) (pc := 89) k_M_readPiece_89 rfl f_M_259 rfl (by first | exact ga G (by decide) rfl | assumption) (by first | assumption | (simp (disch := omega) only [pI_eq, pI_row, pI_col, va_up_self, va_up_ne, ne_eq, not_false_eq_true] <;> rfl) | rfl) ?_
    | refine T_iconst (v := (nI 1)) (pc1 := 93) (pc := 92) k_M_readPiece_92 rfl (by decide) ?_
    | with_reducible refine T_iaddN (pc1 := 94) (pc := 93) k_M_readPiece_93 (by decide) ?_
    | refine T_iadd (pc1 := 94) (pc := 93) k_M_readPiece_93 rfl ?_
    | refine T_putI (pc1 := 97) (pc := 94) k_M_readPiece_94 rfl f_M_259 rfl (by first | exact ga G (by decide) rfl | assumption) (by first | rfl | decide | assumption) (by first | rfl | decide | assumption) ?_
    | refine T_aload_n (pc1 := 98) (pc := 97) k_M_readPiece_97 rfl rfl ?_
    | refine T_aload_nN (pc1 := 98) (pc := 97) k_M_readPiece_97 rfl rfl ?_
    | refine T_aload_n (pc1 := 103) (pc := 102) k_M_readPiece_102 rfl rfl ?_
    | refine T_aload_nN (pc1 := 103) (pc := 102) k_M_readPiece_102 rfl rfl ?_
    | refine T_bipush (v := (nI 41)) (pc1 := 105) (pc := 103) k_M_readPiece_103 rfl (by decide) ?_
    | refine T_dup (pc1 := 113) (pc := 112) k_M_readPiece_112 rfl rfl ?_
    | refine T_getV (pc1 := 116) (pc := 113) k_M_readPiece_113 rfl f_M_259 rfl (by first | exact ga G (by decide) rfl | assumption) (by first | assumption | (simp (disch := omega) only [pI_eq, pI_row, pI_col, va_up_self, va_up_ne, ne_eq, not_false_eq_true] <;> rfl) | rfl) ?_
    | refine T_iconst (v := (nI 1)) (pc1 := 117) (pc := 116) k_M_readPiece_116 rfl (by decide) ?_
    | with_reducible refine T_isubN (pc1 := 118) (pc := 117) k_M_readPiece_117 (by decide) (by omega) ?_
    | refine T_isub (pc1 := 118) (pc := 117) k_M_readPiece_117 rfl ?_
    | refine T_putI (pc1 := 121) (pc := 118) k_M_readPiece_118 rfl f_M_259 rfl (by first | exact ga G (by decide) rfl | assumption) (by first | rfl | decide | assumption) (by first | rfl | decide | assumption) ?_
    | refine T_goto (tgt := 128) (pc := 121) k_M_readPiece_121 rfl ?_
    | (refine T_cV (As := []) (d1 := 5) (pc1 := 128) (pc := 125) k_M_readPiece_125 rfl (by decide) (Nat.le_of_ble_eq_true rfl) rfl o_M_readLeaf l_M_265 rfl (by first | exact ga G (by decide) rfl | assumption) rfl (c_M_readLeafW G hF okt hk h hw (fun J hJ hJP => ?_)) <;> try dsimp only [psh]))
  exact kk J hJ hJP
theorem c_M_readTermW {I : IM} {K : Option Value → Geo → IM → Prop} {p : PS} (G : GeoOK g) (hF : g.1.2.2.category = 1) (okt : okTp T z) (hk : key < 3) (h : PMw T z key p I) (hw : wfP T z p) (kk : ∀ J, FrM I J → PMw T z key p J → K none g J) : Cl 21 M_M_readTerm [.ref 101] g I K := by
  show Rl 21 M_M_readTerm 0 [some (.ref 101), none] [] g I K
  first | refine T_aload_n (pc1 := 1) (pc := 0) k_M_readTerm_0 rfl rfl ?_ | refine T_aload_nN (pc1 := 1) (pc := 0) k_M_readTerm_0 rfl rfl ?_
  refine T_cV (As := []) (d1 := 20) (pc1 := 4) (pc := 1) k_M_readTerm_1 rfl (by decide) (Nat.le_of_ble_eq_true rfl) rfl o_M_readPiece l_M_253 rfl (ga G (by decide) rfl) rfl (c_M_readPieceW G hF okt hk h hw (fun J hJ hJP => ?_)) <;> try dsimp only [psh]
  repeat' (first
    | ((first | refine T_aload_n (pc1 := 1) (pc := 0) k_M_readTerm_0 rfl rfl ?_ | refine T_aload_nN (pc1 := 1) (pc := 0) k_M_readTerm_0 rfl rfl ?_))
    | ((first | refine T_aload_n (pc1 := 5) (pc := 4) k_M_readTerm_4 rfl rfl ?_ | refine T_aload_nN (pc1 := 5) (pc := 4) k_M_readTerm_4 rfl rfl ?_) <;> try (refine T_bipush (v := (nI 42)) (pc1 := 7) (pc := 5) k_M_readTerm_5 rfl (by decide) ?_ <;> try ((refine T_cV (As := [_]) (d1 := 1) (pc1 := 10) (pc := 7) k_M_readTerm_7 rfl (by decide) (Nat.le_of_ble_eq_true rfl) rfl o_M_isSign l_M_243 rfl (by first | exact ga G (by decide) rfl | assumption) rfl (c_M_isSignW G hJP ?_) <;> try dsimp only [psh]) <;> try ((first | (with_reducible refine T_if_neN (tgt := 22) (pc1 := 13) (pc := 10) k_M_readTerm_10 (by decide) (by decide) (by omega) (fun hc => ?_) (fun hc => ?_) <;> first | (exfalso; omega) | skip) | refine T_if_ne_t (tgt := 22) (pc := 10) k_M_readTerm_10 rfl (by decide) ?_ | refine T_if_ne_f (tgt := 22) (pc1 := 13) (pc := 10) k_M_readTerm_10 rfl rfl (by decide) ?_ | refine T_if_ne (tgt := 22) (pc1 := 13) (pc := 10) k_M_readTerm_10 rfl rfl (fun hc => ?_) (fun hc => ?_))))))
    | ((first | refine T_aload_n (pc1 := 14) (pc := 13) k_M_readTerm_13 rfl rfl ?_ | refine T_aload_nN (pc1 := 14) (pc := 13) k_M_readTerm_13 rfl rfl ?_) <;> try (refine T_bipush (v := (nI 47)) (pc1 := 16) (pc := 14) k_M_readTerm_14 rfl (by decide) ?_ <;> try ((refine T_cV (As := [_]) (d1 := 1) (pc1 := 19) (pc := 16) k_M_readTerm_16 rfl (by decide) (Nat.le_of_ble_eq_true rfl) rfl o_M_isSign l_M_243 rfl (by first | exact ga G (by decide) rfl | assumption) rfl (c_M_isSignW G hJP ?_) <;> try dsimp only [psh]) <;> try ((first | (with_reducible refine T_if_eqN (tgt := 61) (pc1 := 22) (pc := 19) k_M_readTerm_19 (by decide) (by decide) (by omega) (fun hc => ?_) (fun hc => ?_) <;> first | (exfalso; omega) | skip) | refine T_if_eq_t (tgt := 61) (pc := 19) k_M_readTerm_19 rfl (by decide) ?_ | refine T_if_eq_f (tgt := 61) (pc1 := 22) (pc := 19) k_M_readTerm_19 rfl rfl (by decide) ?_ | refine T_if_eq (tgt := 61) (pc1 := 22) (pc := 19) k_M_readTerm_19 rfl rfl (fun hc => ?_) (fun hc => ?_))))))
    | ((first | refine T_aload_n (pc1 := 23) (pc := 22) k_M_readTerm_22 rfl rfl ?_ | refine T_aload_nN (pc1 := 23) (pc := 22) k_M_readTerm_22 rfl rfl ?_) <;> try (refine T_getR (pc1 := 26) (pc := 23) k_M_readTerm_23 rfl f_M_28 rfl (by first | exact ga G (by decide) rfl | assumption) (by first | exact gr G (by decide) rfl | assumption) ?_ <;> try ((first | refine T_aload_n (pc1 := 27) (pc := 26) k_M_readTerm_26 rfl rfl ?_ | refine T_aload_nN (pc1 := 27) (pc := 26) k_M_readTerm_26 rfl rfl ?_) <;> try (refine T_getV (pc1 := 30) (pc := 27) k_M_readTerm_27 rfl f_M_213 rfl (by first | exact ga G (by decide) rfl | assumption) (by first | assumption | (simp (disch := omega) only [pI_eq, pI_row, pI_col, va_up_self, va_up_ne, ne_eq, not_false_eq_true] <;> rfl) | rfl) ?_ <;> try ((first | refine T_ialdN (pc1 := 31) (pc := 30) k_M_readTerm_30 rfl (by first | exact ga G (by decide) rfl | assumption) (by omega) (by omega) (by first | assumption | (simp (disch := omega) only [pI_eq, pI_row, pI_col, va_up_self, va_up_ne, ne_eq, not_false_eq_true] <;> rfl) | rfl) ?_ | refine T_iald (pc1 := 31) (pc := 30) k_M_readTerm_30 rfl (by first | exact ga G (by decide) rfl | assumption) (by assumption) ?_) <;> try (refine T_bipush (v := (nI 42)) (pc1 := 33) (pc := 31) k_M_readTerm_31 rfl (by decide) ?_ <;> try ((first | (with_reducible refine T_icmp_neN (tgt := 41) (pc1 := 36) (pc := 33) k_M_readTerm_33 (by decide) (by decide) (by omega) (by omega) (fun hc => ?_) (fun hc => ?_) <;> first | (exfalso; omega) | skip) | refine T_icmp_ne_t (tgt := 41) (pc := 33) k_M_readTerm_33 rfl (by decide) ?_ | refine T_icmp_ne_f (tgt := 41) (pc1 := 36) (pc := 33) k_M_readTerm_33 rfl rfl (by decide) ?_ | refine T_icmp_ne (tgt := 41) (pc1 := 36) (pc := 33) k_M_readTerm_33 rfl rfl (fun hc => ?_) (fun hc => ?_)))))))))
    | (refine T_bipush (v := (-27)) (pc1 := 38) (pc := 36) k_M_readTerm_36 rfl (by decide) ?_ <;> try (refine T_goto (tgt := 43) (pc := 38) k_M_readTerm_38 rfl ?_))
    | (refine T_bipush (v := (-28)) (pc1 := 43) (pc := 41) k_M_readTerm_41 rfl (by decide) ?_)
    | (refine T_istore_n (pc1 := 44) (pc := 43) k_M_readTerm_43 rfl (Nat.le_of_ble_eq_true rfl) ?_ <;> try ((first | refine T_aload_n (pc1 := 45) (pc := 44) k_M_readTerm_44 rfl rfl ?_ | refine T_aload_nN (pc1 := 45) (pc := 44) k_M_readTerm_44 rfl rfl ?_) <;> try (refine T_iconst (v := (nI 1)) (pc1 := 46) (pc := 45) k_M_readTerm_45 rfl (by decide) ?_)))
    | ((first | refine T_aload_n (pc1 := 50) (pc := 49) k_M_readTerm_49 rfl rfl ?_ | refine T_aload_nN (pc1 := 50) (pc := 49) k_M_readTerm_49 rfl rfl ?_))
    | ((first | refine T_aload_n (pc1 := 54) (pc := 53) k_M_readTerm_53 rfl rfl ?_ | refine T_aload_nN (pc1 := 54) (pc := 53) k_M_readTerm_53 rfl rfl ?_) <;> try (refine T_iload_n (pc1 := 55) (pc := 54) k_M_readTerm_54 rfl rfl ?_))
    | (refine T_goto (tgt := 4) (pc := 58) k_M_readTerm_58 rfl ?_)
    | (refine T_retV (pc := 61) k_M_readTerm_61 rfl ?_)
    | refine T_bipush (v := (nI 42)) (pc1 := 7) (pc := 5) k_M_readTerm_5 rfl (by decide) ?_
    | (refine T_cV (As := [_]) (d1 := 1) (pc1 := 10) (pc := 7) k_M_readTerm_7 rfl (by decide) (Nat.le_of_ble_eq_true rfl) rfl o_M_isSign l_M_243 rfl (by first | exact ga G (by decide) rfl | assumption) rfl (c_M_isSignW G hJP ?_) <;> try dsimp only [psh])
    | (with_reducible refine T_if_neN (tgt := 22) (pc1 := 13) (pc := 10) k_M_readTerm_10 (by decide) (by decide) (by omega) (fun hc => ?_) (fun hc => ?_) <;> first | (exfalso; omega) | skip)
    | refine T_if_ne_t (tgt := 22) (pc := 10) k_M_readTerm_10 rfl (by decide) ?_
    | refine T_if_ne_f (tgt := 22) (pc1 := 13) (pc := 10) k_M_readTerm_10 rfl rfl (by decide) ?_
    | refine T_if_ne (tgt := 22) (pc1 := 13) (pc := 10) k_M_readTerm_10 rfl rfl (fun hc => ?_) (fun hc => ?_)
    | refine T_bipush (v := (nI 47)) (pc1 := 16) (pc := 14) k_M_readTerm_14 rfl (by decide) ?_
    | (refine T_cV (As := [_]) (d1 := 1) (pc1 := 19) (pc := 16) k_M_readTerm_16 rfl (by decide) (Nat.le_of_ble_eq_true rfl) rfl o_M_isSign l_M_243 rfl (by first | exact ga G (by decide) rfl | assumption) rfl (c_M_isSignW G hJP ?_) <;> try dsimp only [psh])
    | (with_reducible refine T_if_eqN (tgt := 61) (pc1 := 22) (pc := 19) k_M_readTerm_19 (by decide) (by decide) (by omega) (fun hc => ?_) (fun hc => ?_) <;> first | (exfalso; omega) | skip)
    | refine T_if_eq_t (tgt := 61) (pc := 19) k_M_readTerm_19 rfl (by decide) ?_
    | refine T_if_eq_f (tgt := 61) (pc1 := 22) (pc := 19) k_M_readTerm_19 rfl rfl (by decide) ?_
    | refine T_if_eq (tgt := 61) (pc1 := 22) (pc := 19) k_M_readTerm_19 rfl rfl (fun hc => ?_) (fun hc => ?_)
    | refine T_getR (pc1 := 26) (pc := 23) k_M_readTerm_23 rfl f_M_28 rfl (by first | exact ga G (by decide) rfl | assumption) (by first | exact gr G (by decide) rfl | assumption) ?_
    | refine T_aload_n (pc1 := 27) (pc := 26) k_M_readTerm_26 rfl rfl ?_
    | refine T_aload_nN (pc1 := 27) (pc := 26) k_M_readTerm_26 rfl rfl ?_
    | refine T_getV (pc1 := 30) (pc := 27) k_M_readTerm_27 rfl f_M_213 rfl (by first | exact ga G (by decide) rfl | assumption) (by first | assumption | (simp (disch := omega) only [pI_eq, pI_row, pI_col, va_up_self, va_up_ne, ne_eq, not_false_eq_true] <;> rfl) | rfl) ?_
    | refine T_ialdN (pc1 := 31) (pc := 30) k_M_readTerm_30 rfl (by first | exact ga G (by decide) rfl | assumption) (by omega) (by omega) (by first | assumption | (simp (disch := omega) only [pI_eq, pI_row, pI_col, va_up_self, va_up_ne, ne_eq, not_false_eq_true] <;> rfl) | rfl) ?_
    | refine T_iald (pc1 := 31) (pc := 30) k_M_readTerm_30 rfl (by first | exact ga G (by decide) rfl | assumption) (by assumption) ?_
    | refine T_bipush (v := (nI 42)) (pc1 := 33) (pc := 31) k_M_readTerm_31 rfl (by decide) ?_
    | (with_reducible refine T_icmp_neN (tgt := 41) (pc1 := 36) (pc := 33) k_M_readTerm_33 (by decide) (by decide) (by omega) (by omega) (fun hc => ?_) (fun hc => ?_) <;> first | (exfalso; omega) | skip)
    | refine T_icmp_ne_t (tgt := 41) (pc := 33) k_M_readTerm_33 rfl (by decide) ?_
    | refine T_icmp_ne_f (tgt := 41) (pc1 := 36) (pc := 33) k_M_readTerm_33 rfl rfl (by decide) ?_
    | refine T_icmp_ne (tgt := 41) (pc1 := 36) (pc := 33) k_M_readTerm_33 rfl rfl (fun hc => ?_) (fun hc => ?_)
    | refine T_goto (tgt := 43) (pc := 38) k_M_readTerm_38 rfl ?_
    | refine T_aload_n (pc1 := 45) (pc := 44) k_M_readTerm_44 rfl rfl ?_
    | refine T_aload_nN (pc1 := 45) (pc := 44) k_M_readTerm_44 rfl rfl ?_
    | refine T_iconst (v := (nI 1)) (pc1 := 46) (pc := 45) k_M_readTerm_45 rfl (by decide) ?_
    | refine T_iload_n (pc1 := 55) (pc := 54) k_M_readTerm_54 rfl rfl ?_)
  exact kk J hJ hJP
theorem c_M_readSumW {I : IM} {K : Option Value → Geo → IM → Prop} {p : PS} (G : GeoOK g) (hF : g.1.2.2.category = 1) (okt : okTp T z) (hk : key < 3) (h : PMw T z key p I) (hw : wfP T z p) (kk : ∀ J, FrM I J → PMw T z key p J → K none g J) : Cl 22 M_M_readSum [.ref 101] g I K := by
  show Rl 22 M_M_readSum 0 [some (.ref 101), none] [] g I K
  first | refine T_aload_n (pc1 := 1) (pc := 0) k_M_readSum_0 rfl rfl ?_ | refine T_aload_nN (pc1 := 1) (pc := 0) k_M_readSum_0 rfl rfl ?_
  refine T_cV (As := []) (d1 := 21) (pc1 := 4) (pc := 1) k_M_readSum_1 rfl (by decide) (Nat.le_of_ble_eq_true rfl) rfl o_M_readTerm l_M_274 rfl (ga G (by decide) rfl) rfl (c_M_readTermW G hF okt hk h hw (fun J hJ hJP => ?_)) <;> try dsimp only [psh]
  repeat' (first
    | ((first | refine T_aload_n (pc1 := 1) (pc := 0) k_M_readSum_0 rfl rfl ?_ | refine T_aload_nN (pc1 := 1) (pc := 0) k_M_readSum_0 rfl rfl ?_))
    | ((first | refine T_aload_n (pc1 := 5) (pc := 4) k_M_readSum_4 rfl rfl ?_ | refine T_aload_nN (pc1 := 5) (pc := 4) k_M_readSum_4 rfl rfl ?_) <;> try (refine T_bipush (v := (nI 43)) (pc1 := 7) (pc := 5) k_M_readSum_5 rfl (by decide) ?_ <;> try ((refine T_cV (As := [_]) (d1 := 1) (pc1 := 10) (pc := 7) k_M_readSum_7 rfl (by decide) (Nat.le_of_ble_eq_true rfl) rfl o_M_isSign l_M_243 rfl (by first | exact ga G (by decide) rfl | assumption) rfl (c_M_isSignW G hJP ?_) <;> try dsimp only [psh]) <;> try ((first | (with_reducible refine T_if_neN (tgt := 22) (pc1 := 13) (pc := 10) k_M_readSum_10 (by decide) (by decide) (by omega) (fun hc => ?_) (fun hc => ?_) <;> first | (exfalso; omega) | skip) | refine T_if_ne_t (tgt := 22) (pc := 10) k_M_readSum_10 rfl (by decide) ?_ | refine T_if_ne_f (tgt := 22) (pc1 := 13) (pc := 10) k_M_readSum_10 rfl rfl (by decide) ?_ | refine T_if_ne (tgt := 22) (pc1 := 13) (pc := 10) k_M_readSum_10 rfl rfl (fun hc => ?_) (fun hc => ?_))))))
    | ((first | refine T_aload_n (pc1 := 14) (pc := 13) k_M_readSum_13 rfl rfl ?_ | refine T_aload_nN (pc1 := 14) (pc := 13) k_M_readSum_13 rfl rfl ?_) <;> try (refine T_bipush (v := (nI 45)) (pc1 := 16) (pc := 14) k_M_readSum_14 rfl (by decide) ?_ <;> try ((refine T_cV (As := [_]) (d1 := 1) (pc1 := 19) (pc := 16) k_M_readSum_16 rfl (by decide) (Nat.le_of_ble_eq_true rfl) rfl o_M_isSign l_M_243 rfl (by first | exact ga G (by decide) rfl | assumption) rfl (c_M_isSignW G hJP ?_) <;> try dsimp only [psh]) <;> try ((first | (with_reducible refine T_if_eqN (tgt := 61) (pc1 := 22) (pc := 19) k_M_readSum_19 (by decide) (by decide) (by omega) (fun hc => ?_) (fun hc => ?_) <;> first | (exfalso; omega) | skip) | refine T_if_eq_t (tgt := 61) (pc := 19) k_M_readSum_19 rfl (by decide) ?_ | refine T_if_eq_f (tgt := 61) (pc1 := 22) (pc := 19) k_M_readSum_19 rfl rfl (by decide) ?_ | refine T_if_eq (tgt := 61) (pc1 := 22) (pc := 19) k_M_readSum_19 rfl rfl (fun hc => ?_) (fun hc => ?_))))))
    | ((first | refine T_aload_n (pc1 := 23) (pc := 22) k_M_readSum_22 rfl rfl ?_ | refine T_aload_nN (pc1 := 23) (pc := 22) k_M_readSum_22 rfl rfl ?_) <;> try (refine T_getR (pc1 := 26) (pc := 23) k_M_readSum_23 rfl f_M_28 rfl (by first | exact ga G (by decide) rfl | assumption) (by first | exact gr G (by decide) rfl | assumption) ?_ <;> try ((first | refine T_aload_n (pc1 := 27) (pc := 26) k_M_readSum_26 rfl rfl ?_ | refine T_aload_nN (pc1 := 27) (pc := 26) k_M_readSum_26 rfl rfl ?_) <;> try (refine T_getV (pc1 := 30) (pc := 27) k_M_readSum_27 rfl f_M_213 rfl (by first | exact ga G (by decide) rfl | assumption) (by first | assumption | (simp (disch := omega) only [pI_eq, pI_row, pI_col, va_up_self, va_up_ne, ne_eq, not_false_eq_true] <;> rfl) | rfl) ?_ <;> try ((first | refine T_ialdN (pc1 := 31) (pc := 30) k_M_readSum_30 rfl (by first | exact ga G (by decide) rfl | assumption) (by omega) (by omega) (by first | assumption | (simp (disch := omega) only [pI_eq, pI_row, pI_col, va_up_self, va_up_ne, ne_eq, not_false_eq_true] <;> rfl) | rfl) ?_ | refine T_iald (pc1 := 31) (pc := 30) k_M_readSum_30 rfl (by first | exact ga G (by decide) rfl | assumption) (by assumption) ?_) <;> try (refine T_bipush (v := (nI 43)) (pc1 := 33) (pc := 31) k_M_readSum_31 rfl (by decide) ?_ <;> try ((first | (with_reducible refine T_icmp_neN (tgt := 41) (pc1 := 36) (pc := 33) k_M_readSum_33 (by decide) (by decide) (by omega) (by omega) (fun hc => ?_) (fun hc => ?_) <;> first | (exfalso; omega) | skip) | refine T_icmp_ne_t (tgt := 41) (pc := 33) k_M_readSum_33 rfl (by decide) ?_ | refine T_icmp_ne_f (tgt := 41) (pc1 := 36) (pc := 33) k_M_readSum_33 rfl rfl (by decide) ?_ | refine T_icmp_ne (tgt := 41) (pc1 := 36) (pc := 33) k_M_readSum_33 rfl rfl (fun hc => ?_) (fun hc => ?_)))))))))
    | (refine T_bipush (v := (-25)) (pc1 := 38) (pc := 36) k_M_readSum_36 rfl (by decide) ?_ <;> try (refine T_goto (tgt := 43) (pc := 38) k_M_readSum_38 rfl ?_))
    | (refine T_bipush (v := (-26)) (pc1 := 43) (pc := 41) k_M_readSum_41 rfl (by decide) ?_)
    | (refine T_istore_n (pc1 := 44) (pc := 43) k_M_readSum_43 rfl (Nat.le_of_ble_eq_true rfl) ?_ <;> try ((first | refine T_aload_n (pc1 := 45) (pc := 44) k_M_readSum_44 rfl rfl ?_ | refine T_aload_nN (pc1 := 45) (pc := 44) k_M_readSum_44 rfl rfl ?_) <;> try (refine T_iconst (v := (nI 1)) (pc1 := 46) (pc := 45) k_M_readSum_45 rfl (by decide) ?_)))
    | ((first | refine T_aload_n (pc1 := 50) (pc := 49) k_M_readSum_49 rfl rfl ?_ | refine T_aload_nN (pc1 := 50) (pc := 49) k_M_readSum_49 rfl rfl ?_))
    | ((first | refine T_aload_n (pc1 := 54) (pc := 53) k_M_readSum_53 rfl rfl ?_ | refine T_aload_nN (pc1 := 54) (pc := 53) k_M_readSum_53 rfl rfl ?_) <;> try (refine T_iload_n (pc1 := 55) (pc := 54) k_M_readSum_54 rfl rfl ?_))
    | (refine T_goto (tgt := 4) (pc := 58) k_M_readSum_58 rfl ?_)
    | (refine T_retV (pc := 61) k_M_readSum_61 rfl ?_)
    | refine T_bipush (v := (nI 43)) (pc1 := 7) (pc := 5) k_M_readSum_5 rfl (by decide) ?_
    | (refine T_cV (As := [_]) (d1 := 1) (pc1 := 10) (pc := 7) k_M_readSum_7 rfl (by decide) (Nat.le_of_ble_eq_true rfl) rfl o_M_isSign l_M_243 rfl (by first | exact ga G (by decide) rfl | assumption) rfl (c_M_isSignW G hJP ?_) <;> try dsimp only [psh])
    | (with_reducible refine T_if_neN (tgt := 22) (pc1 := 13) (pc := 10) k_M_readSum_10 (by decide) (by decide) (by omega) (fun hc => ?_) (fun hc => ?_) <;> first | (exfalso; omega) | skip)
    | refine T_if_ne_t (tgt := 22) (pc := 10) k_M_readSum_10 rfl (by decide) ?_
    | refine T_if_ne_f (tgt := 22) (pc1 := 13) (pc := 10) k_M_readSum_10 rfl rfl (by decide) ?_
    | refine T_if_ne (tgt := 22) (pc1 := 13) (pc := 10) k_M_readSum_10 rfl rfl (fun hc => ?_) (fun hc => ?_)
    | refine T_bipush (v := (nI 45)) (pc1 := 16) (pc := 14) k_M_readSum_14 rfl (by decide) ?_
    | (refine T_cV (As := [_]) (d1 := 1) (pc1 := 19) (pc := 16) k_M_readSum_16 rfl (by decide) (Nat.le_of_ble_eq_true rfl) rfl o_M_isSign l_M_243 rfl (by first | exact ga G (by decide) rfl | assumption) rfl (c_M_isSignW G hJP ?_) <;> try dsimp only [psh])
    | (with_reducible refine T_if_eqN (tgt := 61) (pc1 := 22) (pc := 19) k_M_readSum_19 (by decide) (by decide) (by omega) (fun hc => ?_) (fun hc => ?_) <;> first | (exfalso; omega) | skip)
    | refine T_if_eq_t (tgt := 61) (pc := 19) k_M_readSum_19 rfl (by decide) ?_
    | refine T_if_eq_f (tgt := 61) (pc1 := 22) (pc := 19) k_M_readSum_19 rfl rfl (by decide) ?_
    | refine T_if_eq (tgt := 61) (pc1 := 22) (pc := 19) k_M_readSum_19 rfl rfl (fun hc => ?_) (fun hc => ?_)
    | refine T_getR (pc1 := 26) (pc := 23) k_M_readSum_23 rfl f_M_28 rfl (by first | exact ga G (by decide) rfl | assumption) (by first | exact gr G (by decide) rfl | assumption) ?_
    | refine T_aload_n (pc1 := 27) (pc := 26) k_M_readSum_26 rfl rfl ?_
    | refine T_aload_nN (pc1 := 27) (pc := 26) k_M_readSum_26 rfl rfl ?_
    | refine T_getV (pc1 := 30) (pc := 27) k_M_readSum_27 rfl f_M_213 rfl (by first | exact ga G (by decide) rfl | assumption) (by first | assumption | (simp (disch := omega) only [pI_eq, pI_row, pI_col, va_up_self, va_up_ne, ne_eq, not_false_eq_true] <;> rfl) | rfl) ?_
    | refine T_ialdN (pc1 := 31) (pc := 30) k_M_readSum_30 rfl (by first | exact ga G (by decide) rfl | assumption) (by omega) (by omega) (by first | assumption | (simp (disch := omega) only [pI_eq, pI_row, pI_col, va_up_self, va_up_ne, ne_eq, not_false_eq_true] <;> rfl) | rfl) ?_
    | refine T_iald (pc1 := 31) (pc := 30) k_M_readSum_30 rfl (by first | exact ga G (by decide) rfl | assumption) (by assumption) ?_
    | refine T_bipush (v := (nI 43)) (pc1 := 33) (pc := 31) k_M_readSum_31 rfl (by decide) ?_
    | (with_reducible refine T_icmp_neN (tgt := 41) (pc1 := 36) (pc := 33) k_M_readSum_33 (by decide) (by decide) (by omega) (by omega) (fun hc => ?_) (fun hc => ?_) <;> first | (exfalso; omega) | skip)
    | refine T_icmp_ne_t (tgt := 41) (pc := 33) k_M_readSum_33 rfl (by decide) ?_
    | refine T_icmp_ne_f (tgt := 41) (pc1 := 36) (pc := 33) k_M_readSum_33 rfl rfl (by decide) ?_
    | refine T_icmp_ne (tgt := 41) (pc1 := 36) (pc := 33) k_M_readSum_33 rfl rfl (fun hc => ?_) (fun hc => ?_)
    | refine T_goto (tgt := 43) (pc := 38) k_M_readSum_38 rfl ?_
    | refine T_aload_n (pc1 := 45) (pc := 44) k_M_readSum_44 rfl rfl ?_
    | refine T_aload_nN (pc1 := 45) (pc := 44) k_M_readSum_44 rfl rfl ?_
    | refine T_iconst (v := (nI 1)) (pc1 := 46) (pc := 45) k_M_readSum_45 rfl (by decide) ?_
    | refine T_iload_n (pc1 := 55) (pc := 54) k_M_readSum_54 rfl rfl ?_)
  exact kk J hJ hJP
theorem c_M_readTestW {I : IM} {K : Option Value → Geo → IM → Prop} {p : PS} (G : GeoOK g) (hF : g.1.2.2.category = 1) (okt : okTp T z) (hk : key < 3) (h : PMw T z key p I) (hw : wfP T z p) (kk : ∀ J, FrM I J → PMw T z key p J → K none g J) : Cl 23 M_M_readTest [.ref 101] g I K := by
  show Rl 23 M_M_readTest 0 [some (.ref 101), none] [] g I K
  first | refine T_aload_n (pc1 := 1) (pc := 0) k_M_readTest_0 rfl rfl ?_ | refine T_aload_nN (pc1 := 1) (pc := 0) k_M_readTest_0 rfl rfl ?_
  refine T_cV (As := []) (d1 := 22) (pc1 := 4) (pc := 1) k_M_readTest_1 rfl (by decide) (Nat.le_of_ble_eq_true rfl) rfl o_M_readSum l_M_277 rfl (ga G (by decide) rfl) rfl (c_M_readSumW G hF okt hk h hw (fun J hJ hJP => ?_)) <;> try dsimp only [psh]
  repeat' (first
    | ((first | refine T_aload_n (pc1 := 1) (pc := 0) k_M_readTest_0 rfl rfl ?_ | refine T_aload_nN (pc1 := 1) (pc := 0) k_M_readTest_0 rfl rfl ?_))
    | ((first | refine T_aload_n (pc1 := 5) (pc := 4) k_M_readTest_4 rfl rfl ?_ | refine T_aload_nN (pc1 := 5) (pc := 4) k_M_readTest_4 rfl rfl ?_) <;> try (refine T_bipush (v := (nI 60)) (pc1 := 7) (pc := 5) k_M_readTest_5 rfl (by decide) ?_ <;> try ((refine T_cV (As := [_]) (d1 := 1) (pc1 := 10) (pc := 7) k_M_readTest_7 rfl (by decide) (Nat.le_of_ble_eq_true rfl) rfl o_M_isSign l_M_243 rfl (by first | exact ga G (by decide) rfl | assumption) rfl (c_M_isSignW G hJP ?_) <;> try dsimp only [psh]) <;> try ((first | (with_reducible refine T_if_neN (tgt := 31) (pc1 := 13) (pc := 10) k_M_readTest_10 (by decide) (by decide) (by omega) (fun hc => ?_) (fun hc => ?_) <;> first | (exfalso; omega) | skip) | refine T_if_ne_t (tgt := 31) (pc := 10) k_M_readTest_10 rfl (by decide) ?_ | refine T_if_ne_f (tgt := 31) (pc1 := 13) (pc := 10) k_M_readTest_10 rfl rfl (by decide) ?_ | refine T_if_ne (tgt := 31) (pc1 := 13) (pc := 10) k_M_readTest_10 rfl rfl (fun hc => ?_) (fun hc => ?_))))))
    | ((first | refine T_aload_n (pc1 := 14) (pc := 13) k_M_readTest_13 rfl rfl ?_ | refine T_aload_nN (pc1 := 14) (pc := 13) k_M_readTest_13 rfl rfl ?_) <;> try (refine T_bipush (v := (nI 61)) (pc1 := 16) (pc := 14) k_M_readTest_14 rfl (by decide) ?_ <;> try ((refine T_cV (As := [_]) (d1 := 1) (pc1 := 19) (pc := 16) k_M_readTest_16 rfl (by decide) (Nat.le_of_ble_eq_true rfl) rfl o_M_isSign l_M_243 rfl (by first | exact ga G (by decide) rfl | assumption) rfl (c_M_isSignW G hJP ?_) <;> try dsimp only [psh]) <;> try ((first | (with_reducible refine T_if_neN (tgt := 31) (pc1 := 22) (pc := 19) k_M_readTest_19 (by decide) (by decide) (by omega) (fun hc => ?_) (fun hc => ?_) <;> first | (exfalso; omega) | skip) | refine T_if_ne_t (tgt := 31) (pc := 19) k_M_readTest_19 rfl (by decide) ?_ | refine T_if_ne_f (tgt := 31) (pc1 := 22) (pc := 19) k_M_readTest_19 rfl rfl (by decide) ?_ | refine T_if_ne (tgt := 31) (pc1 := 22) (pc := 19) k_M_readTest_19 rfl rfl (fun hc => ?_) (fun hc => ?_))))))
    | ((first | refine T_aload_n (pc1 := 23) (pc := 22) k_M_readTest_22 rfl rfl ?_ | refine T_aload_nN (pc1 := 23) (pc := 22) k_M_readTest_22 rfl rfl ?_) <;> try (refine T_bipush (v := (nI 62)) (pc1 := 25) (pc := 23) k_M_readTest_23 rfl (by decide) ?_ <;> try ((refine T_cV (As := [_]) (d1 := 1) (pc1 := 28) (pc := 25) k_M_readTest_25 rfl (by decide) (Nat.le_of_ble_eq_true rfl) rfl o_M_isSign l_M_243 rfl (by first | exact ga G (by decide) rfl | assumption) rfl (c_M_isSignW G hJP ?_) <;> try dsimp only [psh]) <;> try ((first | (with_reducible refine T_if_eqN (tgt := 86) (pc1 := 31) (pc := 28) k_M_readTest_28 (by decide) (by decide) (by omega) (fun hc => ?_) (fun hc => ?_) <;> first | (exfalso; omega) | skip) | refine T_if_eq_t (tgt := 86) (pc := 28) k_M_readTest_28 rfl (by decide) ?_ | refine T_if_eq_f (tgt := 86) (pc1 := 31) (pc := 28) k_M_readTest_28 rfl rfl (by decide) ?_ | refine T_if_eq (tgt := 86) (pc1 := 31) (pc := 28) k_M_readTest_28 rfl rfl (fun hc => ?_) (fun hc => ?_))))))
    | ((first | refine T_aload_n (pc1 := 32) (pc := 31) k_M_readTest_31 rfl rfl ?_ | refine T_aload_nN (pc1 := 32) (pc := 31) k_M_readTest_31 rfl rfl ?_) <;> try (refine T_getR (pc1 := 35) (pc := 32) k_M_readTest_32 rfl f_M_28 rfl (by first | exact ga G (by decide) rfl | assumption) (by first | exact gr G (by decide) rfl | assumption) ?_ <;> try ((first | refine T_aload_n (pc1 := 36) (pc := 35) k_M_readTest_35 rfl rfl ?_ | refine T_aload_nN (pc1 := 36) (pc := 35) k_M_readTest_35 rfl rfl ?_) <;> try (refine T_getV (pc1 := 39) (pc := 36) k_M_readTest_36 rfl f_M_213 rfl (by first | exact ga G (by decide) rfl | assumption) (by first | assumption | (simp (disch := omega) only [pI_eq, pI_row, pI_col, va_up_self, va_up_ne, ne_eq, not_false_eq_true] <;> rfl) | rfl) ?_ <;> try ((first | refine T_ialdN (pc1 := 40) (pc := 39) k_M_readTest_39 rfl (by first | exact ga G (by decide) rfl | assumption) (by omega) (by omega) (by first | assumption | (simp (disch := omega) only [pI_eq, pI_row, pI_col, va_up_self, va_up_ne, ne_eq, not_false_eq_true] <;> rfl) | rfl) ?_ | refine T_iald (pc1 := 40) (pc := 39) k_M_readTest_39 rfl (by first | exact ga G (by decide) rfl | assumption) (by assumption) ?_) <;> try (refine T_bipush (v := (nI 60)) (pc1 := 42) (pc := 40) k_M_readTest_40 rfl (by decide) ?_ <;> try ((first | (with_reducible refine T_icmp_neN (tgt := 50) (pc1 := 45) (pc := 42) k_M_readTest_42 (by decide) (by decide) (by omega) (by omega) (fun hc => ?_) (fun hc => ?_) <;> first | (exfalso; omega) | skip) | refine T_icmp_ne_t (tgt := 50) (pc := 42) k_M_readTest_42 rfl (by decide) ?_ | refine T_icmp_ne_f (tgt := 50) (pc1 := 45) (pc := 42) k_M_readTest_42 rfl rfl (by decide) ?_ | refine T_icmp_ne (tgt := 50) (pc1 := 45) (pc := 42) k_M_readTest_42 rfl rfl (fun hc => ?_) (fun hc => ?_)))))))))
    | (refine T_bipush (v := (-22)) (pc1 := 47) (pc := 45) k_M_readTest_45 rfl (by decide) ?_ <;> try (refine T_goto (tgt := 71) (pc := 47) k_M_readTest_47 rfl ?_))
    | ((first | refine T_aload_n (pc1 := 51) (pc := 50) k_M_readTest_50 rfl rfl ?_ | refine T_aload_nN (pc1 := 51) (pc := 50) k_M_readTest_50 rfl rfl ?_) <;> try (refine T_getR (pc1 := 54) (pc := 51) k_M_readTest_51 rfl f_M_28 rfl (by first | exact ga G (by decide) rfl | assumption) (by first | exact gr G (by decide) rfl | assumption) ?_ <;> try ((first | refine T_aload_n (pc1 := 55) (pc := 54) k_M_readTest_54 rfl rfl ?_ | refine T_aload_nN (pc1 := 55) (pc := 54) k_M_readTest_54 rfl rfl ?_) <;> try (refine T_getV (pc1 := 58) (pc := 55) k_M_readTest_55 rfl f_M_213 rfl (by first | exact ga G (by decide) rfl | assumption) (by first | assumption | (simp (disch := omega) only [pI_eq, pI_row, pI_col, va_up_self, va_up_ne, ne_eq, not_false_eq_true] <;> rfl) | rfl) ?_ <;> try ((first | refine T_ialdN (pc1 := 59) (pc := 58) k_M_readTest_58 rfl (by first | exact ga G (by decide) rfl | assumption) (by omega) (by omega) (by first | assumption | (simp (disch := omega) only [pI_eq, pI_row, pI_col, va_up_self, va_up_ne, ne_eq, not_false_eq_true] <;> rfl) | rfl) ?_ | refine T_iald (pc1 := 59) (pc := 58) k_M_readTest_58 rfl (by first | exact ga G (by decide) rfl | assumption) (by assumption) ?_) <;> try (refine T_bipush (v := (nI 61)) (pc1 := 61) (pc := 59) k_M_readTest_59 rfl (by decide) ?_ <;> try ((first | (with_reducible refine T_icmp_neN (tgt := 69) (pc1 := 64) (pc := 61) k_M_readTest_61 (by decide) (by decide) (by omega) (by omega) (fun hc => ?_) (fun hc => ?_) <;> first | (exfalso; omega) | skip) | refine T_icmp_ne_t (tgt := 69) (pc := 61) k_M_readTest_61 rfl (by decide) ?_ | refine T_icmp_ne_f (tgt := 69) (pc1 := 64) (pc := 61) k_M_readTest_61 rfl rfl (by decide) ?_ | refine T_icmp_ne (tgt := 69) (pc1 := 64) (pc := 61) k_M_readTest_61 rfl rfl (fun hc => ?_) (fun hc => ?_)))))))))
    | (refine T_bipush (v := (-23)) (pc1 := 66) (pc := 64) k_M_readTest_64 rfl (by decide) ?_ <;> try (refine T_goto (tgt := 71) (pc := 66) k_M_readTest_66 rfl ?_))
    | (refine T_bipush (v := (-24)) (pc1 := 71) (pc := 69) k_M_readTest_69 rfl (by decide) ?_)
    | (refine T_istore_n (pc1 := 72) (pc := 71) k_M_readTest_71 rfl (Nat.le_of_ble_eq_true rfl) ?_ <;> try ((first | refine T_aload_n (pc1 := 73) (pc := 72) k_M_readTest_72 rfl rfl ?_ | refine T_aload_nN (pc1 := 73) (pc := 72) k_M_readTest_72 rfl rfl ?_) <;> try (refine T_iconst (v := (nI 1)) (pc1 := 74) (pc := 73) k_M_readTest_73 rfl (by decide) ?_)))
    | ((first | refine T_aload_n (pc1 := 78) (pc := 77) k_M_readTest_77 rfl rfl ?_ | refine T_aload_nN (pc1 := 78) (pc := 77) k_M_readTest_77 rfl rfl ?_))
    | ((first | refine T_aload_n (pc1 := 82) (pc := 81) k_M_readTest_81 rfl rfl ?_ | refine T_aload_nN (pc1 := 82) (pc := 81) k_M_readTest_81 rfl rfl ?_) <;> try (refine T_iload_n (pc1 := 83) (pc := 82) k_M_readTest_82 rfl rfl ?_))
    | (refine T_retV (pc := 86) k_M_readTest_86 rfl ?_)
    | refine T_bipush (v := (nI 60)) (pc1 := 7) (pc := 5) k_M_readTest_5 rfl (by decide) ?_
    | (refine T_cV (As := [_]) (d1 := 1) (pc1 := 10) (pc := 7) k_M_readTest_7 rfl (by decide) (Nat.le_of_ble_eq_true rfl) rfl o_M_isSign l_M_243 rfl (by first | exact ga G (by decide) rfl | assumption) rfl (c_M_isSignW G hJP ?_) <;> try dsimp only [psh])
    | (with_reducible refine T_if_neN (tgt := 31) (pc1 := 13) (pc := 10) k_M_readTest_10 (by decide) (by decide) (by omega) (fun hc => ?_) (fun hc => ?_) <;> first | (exfalso; omega) | skip)
    | refine T_if_ne_t (tgt := 31) (pc := 10) k_M_readTest_10 rfl (by decide) ?_
    | refine T_if_ne_f (tgt := 31) (pc1 := 13) (pc := 10) k_M_readTest_10 rfl rfl (by decide) ?_
    | refine T_if_ne (tgt := 31) (pc1 := 13) (pc := 10) k_M_readTest_10 rfl rfl (fun hc => ?_) (fun hc => ?_)
    | refine T_bipush (v := (nI 61)) (pc1 := 16) (pc := 14) k_M_readTest_14 rfl (by decide) ?_
    | (refine T_cV (As := [_]) (d1 := 1) (pc1 := 19) (pc := 16) k_M_readTest_16 rfl (by decide) (Nat.le_of_ble_eq_true rfl) rfl o_M_isSign l_M_243 rfl (by first | exact ga G (by decide) rfl | assumption) rfl (c_M_isSignW G hJP ?_) <;> try dsimp only [psh])
    | (with_reducible refine T_if_neN (tgt := 31) (pc1 := 22) (pc := 19) k_M_readTest_19 (by decide) (by decide) (by omega) (fun hc => ?_) (fun hc => ?_) <;> first | (exfalso; omega) | skip)
    | refine T_if_ne_t (tgt := 31) (pc := 19) k_M_readTest_19 rfl (by decide) ?_
    | refine T_if_ne_f (tgt := 31) (pc1 := 22) (pc := 19) k_M_readTest_19 rfl rfl (by decide) ?_
    | refine T_if_ne (tgt := 31) (pc1 := 22) (pc := 19) k_M_readTest_19 rfl rfl (fun hc => ?_) (fun hc => ?_)
    | refine T_bipush (v := (nI 62)) (pc1 := 25) (pc := 23) k_M_readTest_23 rfl (by decide) ?_
    | (refine T_cV (As := [_]) (d1 := 1) (pc1 := 28) (pc := 25) k_M_readTest_25 rfl (by decide) (Nat.le_of_ble_eq_true rfl) rfl o_M_isSign l_M_243 rfl (by first | exact ga G (by decide) rfl | assumption) rfl (c_M_isSignW G hJP ?_) <;> try dsimp only [psh])
    | (with_reducible refine T_if_eqN (tgt := 86) (pc1 := 31) (pc := 28) k_M_readTest_28 (by decide) (by decide) (by omega) (fun hc => ?_) (fun hc => ?_) <;> first | (exfalso; omega) | skip)
    | refine T_if_eq_t (tgt := 86) (pc := 28) k_M_readTest_28 rfl (by decide) ?_
    | refine T_if_eq_f (tgt := 86) (pc1 := 31) (pc := 28) k_M_readTest_28 rfl rfl (by decide) ?_
    | refine T_if_eq (tgt := 86) (pc1 := 31) (pc := 28) k_M_readTest_28 rfl rfl (fun hc => ?_) (fun hc => ?_)
    | refine T_getR (pc1 := 35) (pc := 32) k_M_readTest_32 rfl f_M_28 rfl (by first | exact ga G (by decide) rfl | assumption) (by first | exact gr G (by decide) rfl | assumption) ?_
    | refine T_aload_n (pc1 := 36) (pc := 35) k_M_readTest_35 rfl rfl ?_
    | refine T_aload_nN (pc1 := 36) (pc := 35) k_M_readTest_35 rfl rfl ?_
    | refine T_getV (pc1 := 39) (pc := 36) k_M_readTest_36 rfl f_M_213 rfl (by first | exact ga G (by decide) rfl | assumption) (by first | assumption | (simp (disch := omega) only [pI_eq, pI_row, pI_col, va_up_self, va_up_ne, ne_eq, not_false_eq_true] <;> rfl) | rfl) ?_
    | refine T_ialdN (pc1 := 40) (pc := 39) k_M_readTest_39 rfl (by first | exact ga G (by decide) rfl | assumption) (by omega) (by omega) (by first | assumption | (simp (disch := omega) only [pI_eq, pI_row, pI_col, va_up_self, va_up_ne, ne_eq, not_false_eq_true] <;> rfl) | rfl) ?_
    | refine T_iald (pc1 := 40) (pc := 39) k_M_readTest_39 rfl (by first | exact ga G (by decide) rfl | assumption) (by assumption) ?_
    | refine T_bipush (v := (nI 60)) (pc1 := 42) (pc := 40) k_M_readTest_40 rfl (by decide) ?_
    | (with_reducible refine T_icmp_neN (tgt := 50) (pc1 := 45) (pc := 42) k_M_readTest_42 (by decide) (by decide) (by omega) (by omega) (fun hc => ?_) (fun hc => ?_) <;> first | (exfalso; omega) | skip)
    | refine T_icmp_ne_t (tgt := 50) (pc := 42) k_M_readTest_42 rfl (by decide) ?_
    | refine T_icmp_ne_f (tgt := 50) (pc1 := 45) (pc := 42) k_M_readTest_42 rfl rfl (by decide) ?_
    | refine T_icmp_ne (tgt := 50) (pc1 := 45) (pc := 42) k_M_readTest_42 rfl rfl (fun hc => ?_) (fun hc => ?_)
    | refine T_goto (tgt := 71) (pc := 47) k_M_readTest_47 rfl ?_
    | refine T_getR (pc1 := 54) (pc := 51) k_M_readTest_51 rfl f_M_28 rfl (by first | exact ga G (by decide) rfl | assumption) (by first | exact gr G (by decide) rfl | assumption) ?_
    | refine T_aload_n (pc1 := 55) (pc := 54) k_M_readTest_54 rfl rfl ?_
    | refine T_aload_nN (pc1 := 55) (pc := 54) k_M_readTest_54 rfl rfl ?_
    | refine T_getV (pc1 := 58) (pc := 55) k_M_readTest_55 rfl f_M_213 rfl (by first | exact ga G (by decide) rfl | assumption) (by first | assumption | (simp (disch := omega) only [pI_eq, pI_row, pI_col, va_up_self, va_up_ne, ne_eq, not_false_eq_true] <;> rfl) | rfl) ?_
    | refine T_ialdN (pc1 := 59) (pc := 58) k_M_readTest_58 rfl (by first | exact ga G (by decide) rfl | assumption) (by omega) (by omega) (by first | assumption | (simp (disch := omega) only [pI_eq, pI_row, pI_col, va_up_self, va_up_ne, ne_eq, not_false_eq_true] <;> rfl) | rfl) ?_
    | refine T_iald (pc1 := 59) (pc := 58) k_M_readTest_58 rfl (by first | exact ga G (by decide) rfl | assumption) (by assumption) ?_
    | refine T_bipush (v := (nI 61)) (pc1 := 61) (pc := 59) k_M_readTest_59 rfl (by decide) ?_
    | (with_reducible refine T_icmp_neN (tgt := 69) (pc1 := 64) (pc := 61) k_M_readTest_61 (by decide) (by decide) (by omega) (by omega) (fun hc => ?_) (fun hc => ?_) <;> first | (exfalso; omega) | skip)
    | refine T_icmp_ne_t (tgt := 69) (pc := 61) k_M_readTest_61 rfl (by decide) ?_
    | refine T_icmp_ne_f (tgt := 69) (pc1 := 64) (pc := 61) k_M_readTest_61 rfl rfl (by decide) ?_
    | refine T_icmp_ne (tgt := 69) (pc1 := 64) (pc := 61) k_M_readTest_61 rfl rfl (fun hc => ?_) (fun hc => ?_)
    | refine T_goto (tgt := 71) (pc := 66) k_M_readTest_66 rfl ?_
    | refine T_aload_n (pc1 := 73) (pc := 72) k_M_readTest_72 rfl rfl ?_
    | refine T_aload_nN (pc1 := 73) (pc := 72) k_M_readTest_72 rfl rfl ?_
    | refine T_iconst (v := (nI 1)) (pc1 := 74) (pc := 73) k_M_readTest_73 rfl (by decide) ?_
    | refine T_iload_n (pc1 := 83) (pc := 82) k_M_readTest_82 rfl rfl ?_)
  exact kk J hJ hJP
theorem c_M_readAndW {I : IM} {K : Option Value → Geo → IM → Prop} {p : PS} (G : GeoOK g) (hF : g.1.2.2.category = 1) (okt : okTp T z) (hk : key < 3) (h : PMw T z key p I) (hw : wfP T z p) (kk : ∀ J, FrM I J → PMw T z key p J → K none g J) : Cl 24 M_M_readAnd [.ref 101] g I K := by
  show Rl 24 M_M_readAnd 0 [some (.ref 101)] [] g I K
  first | refine T_aload_n (pc1 := 1) (pc := 0) k_M_readAnd_0 rfl rfl ?_ | refine T_aload_nN (pc1 := 1) (pc := 0) k_M_readAnd_0 rfl rfl ?_
  refine T_cV (As := []) (d1 := 23) (pc1 := 4) (pc := 1) k_M_readAnd_1 rfl (by decide) (Nat.le_of_ble_eq_true rfl) rfl o_M_readTest l_M_280 rfl (ga G (by decide) rfl) rfl (c_M_readTestW G hF okt hk h hw (fun J hJ hJP => ?_)) <;> try dsimp only [psh]
  repeat' (first
    | ((first | refine T_aload_n (pc1 := 1) (pc := 0) k_M_readAnd_0 rfl rfl ?_ | refine T_aload_nN (pc1 := 1) (pc := 0) k_M_readAnd_0 rfl rfl ?_))
    | ((first | refine T_aload_n (pc1 := 5) (pc := 4) k_M_readAnd_4 rfl rfl ?_ | refine T_aload_nN (pc1 := 5) (pc := 4) k_M_readAnd_4 rfl rfl ?_) <;> try (refine T_bipush (v := (nI 38)) (pc1 := 7) (pc := 5) k_M_readAnd_5 rfl (by decide) ?_ <;> try ((refine T_cV (As := [_]) (d1 := 1) (pc1 := 10) (pc := 7) k_M_readAnd_7 rfl (by decide) (Nat.le_of_ble_eq_true rfl) rfl o_M_isSign l_M_243 rfl (by first | exact ga G (by decide) rfl | assumption) rfl (c_M_isSignW G hJP ?_) <;> try dsimp only [psh]) <;> try ((first | (with_reducible refine T_if_eqN (tgt := 31) (pc1 := 13) (pc := 10) k_M_readAnd_10 (by decide) (by decide) (by omega) (fun hc => ?_) (fun hc => ?_) <;> first | (exfalso; omega) | skip) | refine T_if_eq_t (tgt := 31) (pc := 10) k_M_readAnd_10 rfl (by decide) ?_ | refine T_if_eq_f (tgt := 31) (pc1 := 13) (pc := 10) k_M_readAnd_10 rfl rfl (by decide) ?_ | refine T_if_eq (tgt := 31) (pc1 := 13) (pc := 10) k_M_readAnd_10 rfl rfl (fun hc => ?_) (fun hc => ?_))))))
    | ((first | refine T_aload_n (pc1 := 14) (pc := 13) k_M_readAnd_13 rfl rfl ?_ | refine T_aload_nN (pc1 := 14) (pc := 13) k_M_readAnd_13 rfl rfl ?_) <;> try (refine T_iconst (v := (nI 1)) (pc1 := 15) (pc := 14) k_M_readAnd_14 rfl (by decide) ?_))
    | ((first | refine T_aload_n (pc1 := 19) (pc := 18) k_M_readAnd_18 rfl rfl ?_ | refine T_aload_nN (pc1 := 19) (pc := 18) k_M_readAnd_18 rfl rfl ?_))
    | ((first | refine T_aload_n (pc1 := 23) (pc := 22) k_M_readAnd_22 rfl rfl ?_ | refine T_aload_nN (pc1 := 23) (pc := 22) k_M_readAnd_22 rfl rfl ?_) <;> try (refine T_bipush (v := (-21)) (pc1 := 25) (pc := 23) k_M_readAnd_23 rfl (by decide) ?_))
    | (refine T_goto (tgt := 4) (pc := 28) k_M_readAnd_28 rfl ?_)
    | (refine T_retV (pc := 31) k_M_readAnd_31 rfl ?_)
    | refine T_bipush (v := (nI 38)) (pc1 := 7) (pc := 5) k_M_readAnd_5 rfl (by decide) ?_
    | (refine T_cV (As := [_]) (d1 := 1) (pc1 := 10) (pc := 7) k_M_readAnd_7 rfl (by decide) (Nat.le_of_ble_eq_true rfl) rfl o_M_isSign l_M_243 rfl (by first | exact ga G (by decide) rfl | assumption) rfl (c_M_isSignW G hJP ?_) <;> try dsimp only [psh])
    | (with_reducible refine T_if_eqN (tgt := 31) (pc1 := 13) (pc := 10) k_M_readAnd_10 (by decide) (by decide) (by omega) (fun hc => ?_) (fun hc => ?_) <;> first | (exfalso; omega) | skip)
    | refine T_if_eq_t (tgt := 31) (pc := 10) k_M_readAnd_10 rfl (by decide) ?_
    | refine T_if_eq_f (tgt := 31) (pc1 := 13) (pc := 10) k_M_readAnd_10 rfl rfl (by decide) ?_
    | refine T_if_eq (tgt := 31) (pc1 := 13) (pc := 10) k_M_readAnd_10 rfl rfl (fun hc => ?_) (fun hc => ?_)
    | refine T_iconst (v := (nI 1)) (pc1 := 15) (pc := 14) k_M_readAnd_14 rfl (by decide) ?_
    | refine T_bipush (v := (-21)) (pc1 := 25) (pc := 23) k_M_readAnd_23 rfl (by decide) ?_)
  exact kk J hJ hJP
theorem c_M_readOrW {I : IM} {K : Option Value → Geo → IM → Prop} {p : PS} (G : GeoOK g) (hF : g.1.2.2.category = 1) (okt : okTp T z) (hk : key < 3) (h : PMw T z key p I) (hw : wfP T z p) (kk : ∀ J, FrM I J → PMw T z key p J → K none g J) : Cl 25 M_M_readOr [.ref 101] g I K := by
  show Rl 25 M_M_readOr 0 [some (.ref 101)] [] g I K
  first | refine T_aload_n (pc1 := 1) (pc := 0) k_M_readOr_0 rfl rfl ?_ | refine T_aload_nN (pc1 := 1) (pc := 0) k_M_readOr_0 rfl rfl ?_
  refine T_cV (As := []) (d1 := 24) (pc1 := 4) (pc := 1) k_M_readOr_1 rfl (by decide) (Nat.le_of_ble_eq_true rfl) rfl o_M_readAnd l_M_283 rfl (ga G (by decide) rfl) rfl (c_M_readAndW G hF okt hk h hw (fun J hJ hJP => ?_)) <;> try dsimp only [psh]
  repeat' (first
    | ((first | refine T_aload_n (pc1 := 1) (pc := 0) k_M_readOr_0 rfl rfl ?_ | refine T_aload_nN (pc1 := 1) (pc := 0) k_M_readOr_0 rfl rfl ?_))
    | ((first | refine T_aload_n (pc1 := 5) (pc := 4) k_M_readOr_4 rfl rfl ?_ | refine T_aload_nN (pc1 := 5) (pc := 4) k_M_readOr_4 rfl rfl ?_) <;> try (refine T_bipush (v := (nI 124)) (pc1 := 7) (pc := 5) k_M_readOr_5 rfl (by decide) ?_ <;> try ((refine T_cV (As := [_]) (d1 := 1) (pc1 := 10) (pc := 7) k_M_readOr_7 rfl (by decide) (Nat.le_of_ble_eq_true rfl) rfl o_M_isSign l_M_243 rfl (by first | exact ga G (by decide) rfl | assumption) rfl (c_M_isSignW G hJP ?_) <;> try dsimp only [psh]) <;> try ((first | (with_reducible refine T_if_eqN (tgt := 31) (pc1 := 13) (pc := 10) k_M_readOr_10 (by decide) (by decide) (by omega) (fun hc => ?_) (fun hc => ?_) <;> first | (exfalso; omega) | skip) | refine T_if_eq_t (tgt := 31) (pc := 10) k_M_readOr_10 rfl (by decide) ?_ | refine T_if_eq_f (tgt := 31) (pc1 := 13) (pc := 10) k_M_readOr_10 rfl rfl (by decide) ?_ | refine T_if_eq (tgt := 31) (pc1 := 13) (pc := 10) k_M_readOr_10 rfl rfl (fun hc => ?_) (fun hc => ?_))))))
    | ((first | refine T_aload_n (pc1 := 14) (pc := 13) k_M_readOr_13 rfl rfl ?_ | refine T_aload_nN (pc1 := 14) (pc := 13) k_M_readOr_13 rfl rfl ?_) <;> try (refine T_iconst (v := (nI 1)) (pc1 := 15) (pc := 14) k_M_readOr_14 rfl (by decide) ?_))
    | ((first | refine T_aload_n (pc1 := 19) (pc := 18) k_M_readOr_18 rfl rfl ?_ | refine T_aload_nN (pc1 := 19) (pc := 18) k_M_readOr_18 rfl rfl ?_))
    | ((first | refine T_aload_n (pc1 := 23) (pc := 22) k_M_readOr_22 rfl rfl ?_ | refine T_aload_nN (pc1 := 23) (pc := 22) k_M_readOr_22 rfl rfl ?_) <;> try (refine T_bipush (v := (-20)) (pc1 := 25) (pc := 23) k_M_readOr_23 rfl (by decide) ?_))
    | (refine T_goto (tgt := 4) (pc := 28) k_M_readOr_28 rfl ?_)
    | (refine T_retV (pc := 31) k_M_readOr_31 rfl ?_)
    | refine T_bipush (v := (nI 124)) (pc1 := 7) (pc := 5) k_M_readOr_5 rfl (by decide) ?_
    | (refine T_cV (As := [_]) (d1 := 1) (pc1 := 10) (pc := 7) k_M_readOr_7 rfl (by decide) (Nat.le_of_ble_eq_true rfl) rfl o_M_isSign l_M_243 rfl (by first | exact ga G (by decide) rfl | assumption) rfl (c_M_isSignW G hJP ?_) <;> try dsimp only [psh])
    | (with_reducible refine T_if_eqN (tgt := 31) (pc1 := 13) (pc := 10) k_M_readOr_10 (by decide) (by decide) (by omega) (fun hc => ?_) (fun hc => ?_) <;> first | (exfalso; omega) | skip)
    | refine T_if_eq_t (tgt := 31) (pc := 10) k_M_readOr_10 rfl (by decide) ?_
    | refine T_if_eq_f (tgt := 31) (pc1 := 13) (pc := 10) k_M_readOr_10 rfl rfl (by decide) ?_
    | refine T_if_eq (tgt := 31) (pc1 := 13) (pc := 10) k_M_readOr_10 rfl rfl (fun hc => ?_) (fun hc => ?_)
    | refine T_iconst (v := (nI 1)) (pc1 := 15) (pc := 14) k_M_readOr_14 rfl (by decide) ?_
    | refine T_bipush (v := (-20)) (pc1 := 25) (pc := 23) k_M_readOr_23 rfl (by decide) ?_)
  exact kk J hJ hJP
end M23
