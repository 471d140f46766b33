/-! The class: a text is worked out. -/
section C2
variable {g : Geo} {I : IM} {K : Option Value → Geo → IM → Prop}
theorem T_alenN {d : Nat} {μ : Mth} {pc pc1 : Nat} {L : Lcl} {S : List Value} {g : Geo} {I : IM} {P : Option Value → Geo → IM → Prop} {i n : Nat} (hf : Fe μ pc .arraylength 1) (hq : pc + 1 = pc1) (ha : isAg g i 100 n) (kR : Rl d μ pc1 L (.int (nI n) :: S) g I P) : Rl d μ pc L (.ref i :: S) g I P := T_alen (t := 100) hf hq (by decide) ha kR
/-- the class's sign for a code of the model's -/
def sgV (op : Int32) : Int32 := if op = -20 then nI 124 else if op = -21 then nI 38 else if op = -22 then nI 60 else if op = -23 then nI 61 else if op = -24 then nI 62 else if op = -25 then nI 43 else if op = -26 then nI 45 else if op = -27 then nI 42 else nI 47
/-- the class's code for a code of the model's -/
def trc (c : Int32) : Int32 := if (0 : Int32) ≤ c then c else if (-10 : Int32) ≤ c then -1 - (c - -10) else if c = -29 then -1033 else -1000 - sgV c
theorem sgV_in (op : Int32) : sgV op = nI 124 ∨ sgV op = nI 38 ∨ sgV op = nI 60 ∨ sgV op = nI 61 ∨ sgV op = nI 62 ∨ sgV op = nI 43 ∨ sgV op = nI 45 ∨ sgV op = nI 42 ∨ sgV op = nI 47 := by
  unfold sgV
  repeat' split
  all_goals simp
theorem sgV_sub (op : Int32) : (-1000 : Int32) - (-1000 - sgV op) = sgV op := by
  rcases sgV_in op with h | h | h | h | h | h | h | h | h <;> rw [h] <;> rfl
theorem sgV_ne (op : Int32) : ¬ sgV op = nI 33 := by
  rcases sgV_in op with h | h | h | h | h | h | h | h | h <;> rw [h] <;> decide
theorem sgV_le (op : Int32) : (-1000 - sgV op) ≤ (-1000 : Int32) := by
  rcases sgV_in op with h | h | h | h | h | h | h | h | h <;> rw [h] <;> decide
def opV (c x y w : Int32) : Int32 := if c = -1 then x else if c = -2 then y else if c = -3 then w else c
theorem c_Te_operand {c x y w : Int32} (kk : K (some (.int (opV c x y w))) g I) : Cl 1 M_Te_operand [.int c, .int x, .int y, .int w] g I K := by
  show Rl 1 M_Te_operand 0 [some (.int c), some (.int x), some (.int y), some (.int w)] [] g I K
  unfold opV at kk
  refine T_iload_n (pc1 := 1) (pc := 0) k_Te_operand_0 rfl rfl ?_
  refine sw_Te_operand_1 (fun hc => ?_) (fun hc => ?_) (fun hc => ?_) (fun hc => ?_)
  · obtain rfl : c = -3 := toInt_inj hc
    repeat' (first
      | (refine T_iload_n (pc1 := 29) (pc := 28) k_Te_operand_28 rfl rfl ?_ <;> try (refine T_retI (pc := 29) k_Te_operand_29 rfl (by first | rfl | decide | assumption) ?_))
      | (refine T_iload_n (pc1 := 31) (pc := 30) k_Te_operand_30 rfl rfl ?_ <;> try (refine T_retI (pc := 31) k_Te_operand_31 rfl (by first | rfl | decide | assumption) ?_))
      | (refine T_iload_n (pc1 := 33) (pc := 32) k_Te_operand_32 rfl rfl ?_ <;> try (refine T_retI (pc := 33) k_Te_operand_33 rfl (by first | rfl | decide | assumption) ?_))
      | (refine T_iload_n (pc1 := 35) (pc := 34) k_Te_operand_34 rfl rfl ?_ <;> try (refine T_retI (pc := 35) k_Te_operand_35 rfl (by first | rfl | decide | assumption) ?_))
      | refine T_retI (pc := 29) k_Te_operand_29 rfl (by first | rfl | decide | assumption) ?_
      | refine T_retI (pc := 31) k_Te_operand_31 rfl (by first | rfl | decide | assumption) ?_
      | refine T_retI (pc := 33) k_Te_operand_33 rfl (by first | rfl | decide | assumption) ?_
      | refine T_retI (pc := 35) k_Te_operand_35 rfl (by first | rfl | decide | assumption) ?_)
    exact kk
  · obtain rfl : c = -2 := toInt_inj hc
    repeat' (first
      | (refine T_iload_n (pc1 := 29) (pc := 28) k_Te_operand_28 rfl rfl ?_ <;> try (refine T_retI (pc := 29) k_Te_operand_29 rfl (by first | rfl | decide | assumption) ?_))
      | (refine T_iload_n (pc1 := 31) (pc := 30) k_Te_operand_30 rfl rfl ?_ <;> try (refine T_retI (pc := 31) k_Te_operand_31 rfl (by first | rfl | decide | assumption) ?_))
      | (refine T_iload_n (pc1 := 33) (pc := 32) k_Te_operand_32 rfl rfl ?_ <;> try (refine T_retI (pc := 33) k_Te_operand_33 rfl (by first | rfl | decide | assumption) ?_))
      | (refine T_iload_n (pc1 := 35) (pc := 34) k_Te_operand_34 rfl rfl ?_ <;> try (refine T_retI (pc := 35) k_Te_operand_35 rfl (by first | rfl | decide | assumption) ?_))
      | refine T_retI (pc := 29) k_Te_operand_29 rfl (by first | rfl | decide | assumption) ?_
      | refine T_retI (pc := 31) k_Te_operand_31 rfl (by first | rfl | decide | assumption) ?_
      | refine T_retI (pc := 33) k_Te_operand_33 rfl (by first | rfl | decide | assumption) ?_
      | refine T_retI (pc := 35) k_Te_operand_35 rfl (by first | rfl | decide | assumption) ?_)
    exact kk
  · obtain rfl : c = -1 := toInt_inj hc
    repeat' (first
      | (refine T_iload_n (pc1 := 29) (pc := 28) k_Te_operand_28 rfl rfl ?_ <;> try (refine T_retI (pc := 29) k_Te_operand_29 rfl (by first | rfl | decide | assumption) ?_))
      | (refine T_iload_n (pc1 := 31) (pc := 30) k_Te_operand_30 rfl rfl ?_ <;> try (refine T_retI (pc := 31) k_Te_operand_31 rfl (by first | rfl | decide | assumption) ?_))
      | (refine T_iload_n (pc1 := 33) (pc := 32) k_Te_operand_32 rfl rfl ?_ <;> try (refine T_retI (pc := 33) k_Te_operand_33 rfl (by first | rfl | decide | assumption) ?_))
      | (refine T_iload_n (pc1 := 35) (pc := 34) k_Te_operand_34 rfl rfl ?_ <;> try (refine T_retI (pc := 35) k_Te_operand_35 rfl (by first | rfl | decide | assumption) ?_))
      | refine T_retI (pc := 29) k_Te_operand_29 rfl (by first | rfl | decide | assumption) ?_
      | refine T_retI (pc := 31) k_Te_operand_31 rfl (by first | rfl | decide | assumption) ?_
      | refine T_retI (pc := 33) k_Te_operand_33 rfl (by first | rfl | decide | assumption) ?_
      | refine T_retI (pc := 35) k_Te_operand_35 rfl (by first | rfl | decide | assumption) ?_)
    exact kk
  · rw [if_neg (fun q => by rw [q] at hc; revert hc; decide), if_neg (fun q => by rw [q] at hc; revert hc; decide), if_neg (fun q => by rw [q] at hc; revert hc; decide)] at kk
    repeat' (first
      | (refine T_iload_n (pc1 := 29) (pc := 28) k_Te_operand_28 rfl rfl ?_ <;> try (refine T_retI (pc := 29) k_Te_operand_29 rfl (by first | rfl | decide | assumption) ?_))
      | (refine T_iload_n (pc1 := 31) (pc := 30) k_Te_operand_30 rfl rfl ?_ <;> try (refine T_retI (pc := 31) k_Te_operand_31 rfl (by first | rfl | decide | assumption) ?_))
      | (refine T_iload_n (pc1 := 33) (pc := 32) k_Te_operand_32 rfl rfl ?_ <;> try (refine T_retI (pc := 33) k_Te_operand_33 rfl (by first | rfl | decide | assumption) ?_))
      | (refine T_iload_n (pc1 := 35) (pc := 34) k_Te_operand_34 rfl rfl ?_ <;> try (refine T_retI (pc := 35) k_Te_operand_35 rfl (by first | rfl | decide | assumption) ?_))
      | refine T_retI (pc := 29) k_Te_operand_29 rfl (by first | rfl | decide | assumption) ?_
      | refine T_retI (pc := 31) k_Te_operand_31 rfl (by first | rfl | decide | assumption) ?_
      | refine T_retI (pc := 33) k_Te_operand_33 rfl (by first | rfl | decide | assumption) ?_
      | refine T_retI (pc := 35) k_Te_operand_35 rfl (by first | rfl | decide | assumption) ?_)
    exact kk
theorem c_Te_joined {op s a b : Int32} (hs : s = sgV op) (kk : ∀ r, r = dn op a b → K (some (.int r)) g I) : Cl 1 M_Te_joined [.int s, .int a, .int b] g I K := by
  show Rl 1 M_Te_joined 0 [some (.int s), some (.int a), some (.int b)] [] g I K
  subst hs
  unfold sgV
  unfold dn at kk
  by_cases c0 : op = -20
  · rw [if_pos c0]
    rw [if_pos c0] at kk
    repeat' (first
      | (refine T_iload_n (pc1 := 1) (pc := 0) k_Te_joined_0 rfl rfl ?_ <;> try ((first | (with_reducible refine swN_Te_joined_1 (by omega) (fun hc => ?_) (fun hc => ?_) (fun hc => ?_) (fun hc => ?_) (fun hc => ?_) (fun hc => ?_) (fun hc => ?_) (fun hc => ?_) (fun hc => ?_) (fun hc => ?_) <;> first | (exfalso; omega) | skip) | refine sw_Te_joined_1 (fun hc => ?_) (fun hc => ?_) (fun hc => ?_) (fun hc => ?_) (fun hc => ?_) (fun hc => ?_) (fun hc => ?_) (fun hc => ?_) (fun hc => ?_) (fun hc => ?_))))
      | (refine T_iload_n (pc1 := 85) (pc := 84) k_Te_joined_84 rfl rfl ?_ <;> try ((first | (with_reducible refine T_if_neN (tgt := 92) (pc1 := 88) (pc := 85) k_Te_joined_85 (by decide) (by decide) (by omega) (fun hc => ?_) (fun hc => ?_) <;> first | (exfalso; omega) | skip) | refine T_if_ne_t (tgt := 92) (pc := 85) k_Te_joined_85 rfl (by decide) ?_ | refine T_if_ne_f (tgt := 92) (pc1 := 88) (pc := 85) k_Te_joined_85 rfl rfl (by decide) ?_ | refine T_if_ne (tgt := 92) (pc1 := 88) (pc := 85) k_Te_joined_85 rfl rfl (fun hc => ?_) (fun hc => ?_))))
      | (refine T_iload_n (pc1 := 89) (pc := 88) k_Te_joined_88 rfl rfl ?_ <;> try ((first | (with_reducible refine T_if_eqN (tgt := 96) (pc1 := 92) (pc := 89) k_Te_joined_89 (by decide) (by decide) (by omega) (fun hc => ?_) (fun hc => ?_) <;> first | (exfalso; omega) | skip) | refine T_if_eq_t (tgt := 96) (pc := 89) k_Te_joined_89 rfl (by decide) ?_ | refine T_if_eq_f (tgt := 96) (pc1 := 92) (pc := 89) k_Te_joined_89 rfl rfl (by decide) ?_ | refine T_if_eq (tgt := 96) (pc1 := 92) (pc := 89) k_Te_joined_89 rfl rfl (fun hc => ?_) (fun hc => ?_))))
      | (refine T_iconst (v := (nI 1)) (pc1 := 93) (pc := 92) k_Te_joined_92 rfl (by decide) ?_ <;> try (refine T_goto (tgt := 97) (pc := 93) k_Te_joined_93 rfl ?_))
      | (refine T_iconst (v := (nI 0)) (pc1 := 97) (pc := 96) k_Te_joined_96 rfl (by decide) ?_)
      | (refine T_retI (pc := 97) k_Te_joined_97 rfl (by first | rfl | decide | assumption) ?_)
      | (refine T_iload_n (pc1 := 99) (pc := 98) k_Te_joined_98 rfl rfl ?_ <;> try ((first | (with_reducible refine T_if_eqN (tgt := 110) (pc1 := 102) (pc := 99) k_Te_joined_99 (by decide) (by decide) (by omega) (fun hc => ?_) (fun hc => ?_) <;> first | (exfalso; omega) | skip) | refine T_if_eq_t (tgt := 110) (pc := 99) k_Te_joined_99 rfl (by decide) ?_ | refine T_if_eq_f (tgt := 110) (pc1 := 102) (pc := 99) k_Te_joined_99 rfl rfl (by decide) ?_ | refine T_if_eq (tgt := 110) (pc1 := 102) (pc := 99) k_Te_joined_99 rfl rfl (fun hc => ?_) (fun hc => ?_))))
      | (refine T_iload_n (pc1 := 103) (pc := 102) k_Te_joined_102 rfl rfl ?_ <;> try ((first | (with_reducible refine T_if_eqN (tgt := 110) (pc1 := 106) (pc := 103) k_Te_joined_103 (by decide) (by decide) (by omega) (fun hc => ?_) (fun hc => ?_) <;> first | (exfalso; omega) | skip) | refine T_if_eq_t (tgt := 110) (pc := 103) k_Te_joined_103 rfl (by decide) ?_ | refine T_if_eq_f (tgt := 110) (pc1 := 106) (pc := 103) k_Te_joined_103 rfl rfl (by decide) ?_ | refine T_if_eq (tgt := 110) (pc1 := 106) (pc := 103) k_Te_joined_103 rfl rfl (fun hc => ?_) (fun hc => ?_))))
      | (refine T_iconst (v := (nI 1)) (pc1 := 107) (pc := 106) k_Te_joined_106 rfl (by decide) ?_ <;> try (refine T_goto (tgt := 111) (pc := 107) k_Te_joined_107 rfl ?_))
      | (refine T_iconst (v := (nI 0)) (pc1 := 111) (pc := 110) k_Te_joined_110 rfl (by decide) ?_)
      | (refine T_retI (pc := 111) k_Te_joined_111 rfl (by first | rfl | decide | assumption) ?_)
      | (refine T_iload_n (pc1 := 113) (pc := 112) k_Te_joined_112 rfl rfl ?_ <;> try (refine T_iload_n (pc1 := 114) (pc := 113) k_Te_joined_113 rfl rfl ?_ <;> try ((first | (with_reducible refine T_icmp_geN (tgt := 121) (pc1 := 117) (pc := 114) k_Te_joined_114 (by decide) (by decide) (by omega) (by omega) (fun hc => ?_) (fun hc => ?_) <;> first | (exfalso; omega) | skip) | refine T_icmp_ge_t (tgt := 121) (pc := 114) k_Te_joined_114 rfl (by decide) ?_ | refine T_icmp_ge_f (tgt := 121) (pc1 := 117) (pc := 114) k_Te_joined_114 rfl rfl (by decide) ?_ | refine T_icmp_ge (tgt := 121) (pc1 := 117) (pc := 114) k_Te_joined_114 rfl rfl (fun hc => ?_) (fun hc => ?_)))))
      | (refine T_iconst (v := (nI 1)) (pc1 := 118) (pc := 117) k_Te_joined_117 rfl (by decide) ?_ <;> try (refine T_goto (tgt := 122) (pc := 118) k_Te_joined_118 rfl ?_))
      | (refine T_iconst (v := (nI 0)) (pc1 := 122) (pc := 121) k_Te_joined_121 rfl (by decide) ?_)
      | (refine T_retI (pc := 122) k_Te_joined_122 rfl (by first | rfl | decide | assumption) ?_)
      | (refine T_iload_n (pc1 := 124) (pc := 123) k_Te_joined_123 rfl rfl ?_ <;> try (refine T_iload_n (pc1 := 125) (pc := 124) k_Te_joined_124 rfl rfl ?_))
      | ((first | (with_reducible refine T_icmp_neN (tgt := 132) (pc1 := 128) (pc := 125) k_Te_joined_125 (by decide) (by decide) (by omega) (by omega) (fun hc => ?_) (fun hc => ?_) <;> first | (exfalso; omega) | skip) | refine T_icmp_ne_t (tgt := 132) (pc := 125) k_Te_joined_125 rfl (by decide) ?_ | refine T_icmp_ne_f (tgt := 132) (pc1 := 128) (pc := 125) k_Te_joined_125 rfl rfl (by decide) ?_ | refine T_icmp_ne (tgt := 132) (pc1 := 128) (pc := 125) k_Te_joined_125 rfl rfl (fun hc => ?_) (fun hc => ?_)))
      | (refine T_iconst (v := (nI 1)) (pc1 := 129) (pc := 128) k_Te_joined_128 rfl (by decide) ?_ <;> try (refine T_goto (tgt := 133) (pc := 129) k_Te_joined_129 rfl ?_))
      | (refine T_iconst (v := (nI 0)) (pc1 := 133) (pc := 132) k_Te_joined_132 rfl (by decide) ?_)
      | (refine T_retI (pc := 133) k_Te_joined_133 rfl (by first | rfl | decide | assumption) ?_)
      | (refine T_iload_n (pc1 := 135) (pc := 134) k_Te_joined_134 rfl rfl ?_ <;> try (refine T_iload_n (pc1 := 136) (pc := 135) k_Te_joined_135 rfl rfl ?_ <;> try ((first | (with_reducible refine T_icmp_leN (tgt := 143) (pc1 := 139) (pc := 136) k_Te_joined_136 (by decide) (by decide) (by omega) (by omega) (fun hc => ?_) (fun hc => ?_) <;> first | (exfalso; omega) | skip) | refine T_icmp_le_t (tgt := 143) (pc := 136) k_Te_joined_136 rfl (by decide) ?_ | refine T_icmp_le_f (tgt := 143) (pc1 := 139) (pc := 136) k_Te_joined_136 rfl rfl (by decide) ?_ | refine T_icmp_le (tgt := 143) (pc1 := 139) (pc := 136) k_Te_joined_136 rfl rfl (fun hc => ?_) (fun hc => ?_)))))
      | (refine T_iconst (v := (nI 1)) (pc1 := 140) (pc := 139) k_Te_joined_139 rfl (by decide) ?_ <;> try (refine T_goto (tgt := 144) (pc := 140) k_Te_joined_140 rfl ?_))
      | (refine T_iconst (v := (nI 0)) (pc1 := 144) (pc := 143) k_Te_joined_143 rfl (by decide) ?_)
      | (refine T_retI (pc := 144) k_Te_joined_144 rfl (by first | rfl | decide | assumption) ?_)
      | (refine T_iload_n (pc1 := 146) (pc := 145) k_Te_joined_145 rfl rfl ?_ <;> try (refine T_iload_n (pc1 := 147) (pc := 146) k_Te_joined_146 rfl rfl ?_ <;> try ((first | with_reducible refine T_iaddN (pc1 := 148) (pc := 147) k_Te_joined_147 (by decide) ?_ | refine T_iadd (pc1 := 148) (pc := 147) k_Te_joined_147 rfl ?_) <;> try (refine T_retI (pc := 148) k_Te_joined_148 rfl (by first | rfl | decide | assumption) ?_))))
      | (refine T_iload_n (pc1 := 150) (pc := 149) k_Te_joined_149 rfl rfl ?_ <;> try (refine T_iload_n (pc1 := 151) (pc := 150) k_Te_joined_150 rfl rfl ?_ <;> try ((first | with_reducible refine T_isubN (pc1 := 152) (pc := 151) k_Te_joined_151 (by decide) (by omega) ?_ | refine T_isub (pc1 := 152) (pc := 151) k_Te_joined_151 rfl ?_) <;> try (refine T_retI (pc := 152) k_Te_joined_152 rfl (by first | rfl | decide | assumption) ?_))))
      | (refine T_iload_n (pc1 := 154) (pc := 153) k_Te_joined_153 rfl rfl ?_ <;> try (refine T_iload_n (pc1 := 155) (pc := 154) k_Te_joined_154 rfl rfl ?_ <;> try ((first | with_reducible refine T_imulN (pc1 := 156) (pc := 155) k_Te_joined_155 (by decide) ?_ | refine T_imul (pc1 := 156) (pc := 155) k_Te_joined_155 rfl ?_) <;> try (refine T_retI (pc := 156) k_Te_joined_156 rfl (by first | rfl | decide | assumption) ?_))))
      | (refine T_iload_n (pc1 := 158) (pc := 157) k_Te_joined_157 rfl rfl ?_ <;> try ((first | (with_reducible refine T_if_neN (tgt := 165) (pc1 := 161) (pc := 158) k_Te_joined_158 (by decide) (by decide) (by omega) (fun hc => ?_) (fun hc => ?_) <;> first | (exfalso; omega) | skip) | refine T_if_ne_t (tgt := 165) (pc := 158) k_Te_joined_158 rfl (by decide) ?_ | refine T_if_ne_f (tgt := 165) (pc1 := 161) (pc := 158) k_Te_joined_158 rfl rfl (by decide) ?_ | refine T_if_ne (tgt := 165) (pc1 := 161) (pc := 158) k_Te_joined_158 rfl rfl (fun hc => ?_) (fun hc => ?_))))
      | (refine T_iconst (v := (nI 0)) (pc1 := 162) (pc := 161) k_Te_joined_161 rfl (by decide) ?_ <;> try (refine T_goto (tgt := 168) (pc := 162) k_Te_joined_162 rfl ?_))
      | (refine T_iload_n (pc1 := 166) (pc := 165) k_Te_joined_165 rfl rfl ?_ <;> try (refine T_iload_n (pc1 := 167) (pc := 166) k_Te_joined_166 rfl rfl ?_ <;> try (refine T_idiv (pc1 := 168) (pc := 167) k_Te_joined_167 rfl (by first | assumption | decide) ?_)))
      | (refine T_retI (pc := 168) k_Te_joined_168 rfl (by first | rfl | decide | assumption) ?_)
      | (refine T_iconst (v := (nI 0)) (pc1 := 170) (pc := 169) k_Te_joined_169 rfl (by decide) ?_ <;> try (refine T_retI (pc := 170) k_Te_joined_170 rfl (by first | rfl | decide | assumption) ?_))
      | (with_reducible refine swN_Te_joined_1 (by omega) (fun hc => ?_) (fun hc => ?_) (fun hc => ?_) (fun hc => ?_) (fun hc => ?_) (fun hc => ?_) (fun hc => ?_) (fun hc => ?_) (fun hc => ?_) (fun hc => ?_) <;> first | (exfalso; omega) | skip)
      | refine sw_Te_joined_1 (fun hc => ?_) (fun hc => ?_) (fun hc => ?_) (fun hc => ?_) (fun hc => ?_) (fun hc => ?_) (fun hc => ?_) (fun hc => ?_) (fun hc => ?_) (fun hc => ?_)
      | (with_reducible refine T_if_neN (tgt := 92) (pc1 := 88) (pc := 85) k_Te_joined_85 (by decide) (by decide) (by omega) (fun hc => ?_) (fun hc => ?_) <;> first | (exfalso; omega) | skip)
      | refine T_if_ne_t (tgt := 92) (pc := 85) k_Te_joined_85 rfl (by decide) ?_
      | refine T_if_ne_f (tgt := 92) (pc1 := 88) (pc := 85) k_Te_joined_85 rfl rfl (by decide) ?_
      | refine T_if_ne (tgt := 92) (pc1 := 88) (pc := 85) k_Te_joined_85 rfl rfl (fun hc => ?_) (fun hc => ?_)
      | (with_reducible refine T_if_eqN (tgt := 96) (pc1 := 92) (pc := 89) k_Te_joined_89 (by decide) (by decide) (by omega) (fun hc => ?_) (fun hc => ?_) <;> first | (exfalso; omega) | skip)
      | refine T_if_eq_t (tgt := 96) (pc := 89) k_Te_joined_89 rfl (by decide) ?_
      | refine T_if_eq_f (tgt := 96) (pc1 := 92) (pc := 89) k_Te_joined_89 rfl rfl (by decide) ?_
      | refine T_if_eq (tgt := 96) (pc1 := 92) (pc := 89) k_Te_joined_89 rfl rfl (fun hc => ?_) (fun hc => ?_)
      | refine T_goto (tgt := 97) (pc := 93) k_Te_joined_93 rfl ?_
      | (with_reducible refine T_if_eqN (tgt := 110) (pc1 := 102) (pc := 99) k_Te_joined_99 (by decide) (by decide) (by omega) (fun hc => ?_) (fun hc => ?_) <;> first | (exfalso; omega) | skip)
      | refine T_if_eq_t (tgt := 110) (pc := 99) k_Te_joined_99 rfl (by decide) ?_
      | refine T_if_eq_f (tgt := 110) (pc1 := 102) (pc := 99) k_Te_joined_99 rfl rfl (by decide) ?_
      | refine T_if_eq (tgt := 110) (pc1 := 102) (pc := 99) k_Te_joined_99 rfl rfl (fun hc => ?_) (fun hc => ?_)
      | (with_reducible refine T_if_eqN (tgt := 110) (pc1 := 106) (pc := 103) k_Te_joined_103 (by decide) (by decide) (by omega) (fun hc => ?_) (fun hc => ?_) <;> first | (exfalso; omega) | skip)
      | refine T_if_eq_t (tgt := 110) (pc := 103) k_Te_joined_103 rfl (by decide) ?_
      | refine T_if_eq_f (tgt := 110) (pc1 := 106) (pc := 103) k_Te_joined_103 rfl rfl (by decide) ?_
      | refine T_if_eq (tgt := 110) (pc1 := 106) (pc := 103) k_Te_joined_103 rfl rfl (fun hc => ?_) (fun hc => ?_)
      | refine T_goto (tgt := 111) (pc := 107) k_Te_joined_107 rfl ?_
      | refine T_iload_n (pc1 := 114) (pc := 113) k_Te_joined_113 rfl rfl ?_
      | (with_reducible refine T_icmp_geN (tgt := 121) (pc1 := 117) (pc := 114) k_Te_joined_114 (by decide) (by decide) (by omega) (by omega) (fun hc => ?_) (fun hc => ?_) <;> first | (exfalso; omega) | skip)
      | refine T_icmp_ge_t (tgt := 121) (pc := 114) k_Te_joined_114 rfl (by decide) ?_
      | refine T_icmp_ge_f (tgt := 121) (pc1 := 117) (pc := 114) k_Te_joined_114 rfl rfl (by decide) ?_
      | refine T_icmp_ge (tgt := 121) (pc1 := 117) (pc := 114) k_Te_joined_114 rfl rfl (fun hc => ?_) (fun hc => ?_)
      | refine T_goto (tgt := 122) (pc := 118) k_Te_joined_118 rfl ?_
      | refine T_iload_n (pc1 := 125) (pc := 124) k_Te_joined_124 rfl rfl ?_
      | refine T_goto (tgt := 133) (pc := 129) k_Te_joined_129 rfl ?_
      | refine T_iload_n (pc1 := 136) (pc := 135) k_Te_joined_135 rfl rfl ?_
      | (with_reducible refine T_icmp_leN (tgt := 143) (pc1 := 139) (pc := 136) k_Te_joined_136 (by decide) (by decide) (by omega) (by omega) (fun hc => ?_) (fun hc => ?_) <;> first | (exfalso; omega) | skip)
      | refine T_icmp_le_t (tgt := 143) (pc := 136) k_Te_joined_136 rfl (by decide) ?_
      | refine T_icmp_le_f (tgt := 143) (pc1 := 139) (pc := 136) k_Te_joined_136 rfl rfl (by decide) ?_
      | refine T_icmp_le (tgt := 143) (pc1 := 139) (pc := 136) k_Te_joined_136 rfl rfl (fun hc => ?_) (fun hc => ?_)
      | refine T_goto (tgt := 144) (pc := 140) k_Te_joined_140 rfl ?_
      | refine T_iload_n (pc1 := 147) (pc := 146) k_Te_joined_146 rfl rfl ?_
      | with_reducible refine T_iaddN (pc1 := 148) (pc := 147) k_Te_joined_147 (by decide) ?_
      | refine T_iadd (pc1 := 148) (pc := 147) k_Te_joined_147 rfl ?_
      | refine T_retI (pc := 148) k_Te_joined_148 rfl (by first | rfl | decide | assumption) ?_
      | refine T_iload_n (pc1 := 151) (pc := 150) k_Te_joined_150 rfl rfl ?_
      | with_reducible refine T_isubN (pc1 := 152) (pc := 151) k_Te_joined_151 (by decide) (by omega) ?_
      | refine T_isub (pc1 := 152) (pc := 151) k_Te_joined_151 rfl ?_
      | refine T_retI (pc := 152) k_Te_joined_152 rfl (by first | rfl | decide | assumption) ?_
      | refine T_iload_n (pc1 := 155) (pc := 154) k_Te_joined_154 rfl rfl ?_
      | with_reducible refine T_imulN (pc1 := 156) (pc := 155) k_Te_joined_155 (by decide) ?_
      | refine T_imul (pc1 := 156) (pc := 155) k_Te_joined_155 rfl ?_
      | refine T_retI (pc := 156) k_Te_joined_156 rfl (by first | rfl | decide | assumption) ?_
      | (with_reducible refine T_if_neN (tgt := 165) (pc1 := 161) (pc := 158) k_Te_joined_158 (by decide) (by decide) (by omega) (fun hc => ?_) (fun hc => ?_) <;> first | (exfalso; omega) | skip)
      | refine T_if_ne_t (tgt := 165) (pc := 158) k_Te_joined_158 rfl (by decide) ?_
      | refine T_if_ne_f (tgt := 165) (pc1 := 161) (pc := 158) k_Te_joined_158 rfl rfl (by decide) ?_
      | refine T_if_ne (tgt := 165) (pc1 := 161) (pc := 158) k_Te_joined_158 rfl rfl (fun hc => ?_) (fun hc => ?_)
      | refine T_goto (tgt := 168) (pc := 162) k_Te_joined_162 rfl ?_
      | refine T_iload_n (pc1 := 167) (pc := 166) k_Te_joined_166 rfl rfl ?_
      | refine T_idiv (pc1 := 168) (pc := 167) k_Te_joined_167 rfl (by first | assumption | decide) ?_
      | refine T_retI (pc := 170) k_Te_joined_170 rfl (by first | rfl | decide | assumption) ?_)
    all_goals (refine kk _ ?_; simp [*])
  rw [if_neg c0]
  rw [if_neg c0] at kk
  by_cases c1 : op = -21
  · rw [if_pos c1]
    rw [if_pos c1] at kk
    repeat' (first
      | (refine T_iload_n (pc1 := 1) (pc := 0) k_Te_joined_0 rfl rfl ?_ <;> try ((first | (with_reducible refine swN_Te_joined_1 (by omega) (fun hc => ?_) (fun hc => ?_) (fun hc => ?_) (fun hc => ?_) (fun hc => ?_) (fun hc => ?_) (fun hc => ?_) (fun hc => ?_) (fun hc => ?_) (fun hc => ?_) <;> first | (exfalso; omega) | skip) | refine sw_Te_joined_1 (fun hc => ?_) (fun hc => ?_) (fun hc => ?_) (fun hc => ?_) (fun hc => ?_) (fun hc => ?_) (fun hc => ?_) (fun hc => ?_) (fun hc => ?_) (fun hc => ?_))))
      | (refine T_iload_n (pc1 := 85) (pc := 84) k_Te_joined_84 rfl rfl ?_ <;> try ((first | (with_reducible refine T_if_neN (tgt := 92) (pc1 := 88) (pc := 85) k_Te_joined_85 (by decide) (by decide) (by omega) (fun hc => ?_) (fun hc => ?_) <;> first | (exfalso; omega) | skip) | refine T_if_ne_t (tgt := 92) (pc := 85) k_Te_joined_85 rfl (by decide) ?_ | refine T_if_ne_f (tgt := 92) (pc1 := 88) (pc := 85) k_Te_joined_85 rfl rfl (by decide) ?_ | refine T_if_ne (tgt := 92) (pc1 := 88) (pc := 85) k_Te_joined_85 rfl rfl (fun hc => ?_) (fun hc => ?_))))
      | (refine T_iload_n (pc1 := 89) (pc := 88) k_Te_joined_88 rfl rfl ?_ <;> try ((first | (with_reducible refine T_if_eqN (tgt := 96) (pc1 := 92) (pc := 89) k_Te_joined_89 (by decide) (by decide) (by omega) (fun hc => ?_) (fun hc => ?_) <;> first | (exfalso; omega) | skip) | refine T_if_eq_t (tgt := 96) (pc := 89) k_Te_joined_89 rfl (by decide) ?_ | refine T_if_eq_f (tgt := 96) (pc1 := 92) (pc := 89) k_Te_joined_89 rfl rfl (by decide) ?_ | refine T_if_eq (tgt := 96) (pc1 := 92) (pc := 89) k_Te_joined_89 rfl rfl (fun hc => ?_) (fun hc => ?_))))
      | (refine T_iconst (v := (nI 1)) (pc1 := 93) (pc := 92) k_Te_joined_92 rfl (by decide) ?_ <;> try (refine T_goto (tgt := 97) (pc := 93) k_Te_joined_93 rfl ?_))
      | (refine T_iconst (v := (nI 0)) (pc1 := 97) (pc := 96) k_Te_joined_96 rfl (by decide) ?_)
      | (refine T_retI (pc := 97) k_Te_joined_97 rfl (by first | rfl | decide | assumption) ?_)
      | (refine T_iload_n (pc1 := 99) (pc := 98) k_Te_joined_98 rfl rfl ?_ <;> try ((first | (with_reducible refine T_if_eqN (tgt := 110) (pc1 := 102) (pc := 99) k_Te_joined_99 (by decide) (by decide) (by omega) (fun hc => ?_) (fun hc => ?_) <;> first | (exfalso; omega) | skip) | refine T_if_eq_t (tgt := 110) (pc := 99) k_Te_joined_99 rfl (by decide) ?_ | refine T_if_eq_f (tgt := 110) (pc1 := 102) (pc := 99) k_Te_joined_99 rfl rfl (by decide) ?_ | refine T_if_eq (tgt := 110) (pc1 := 102) (pc := 99) k_Te_joined_99 rfl rfl (fun hc => ?_) (fun hc => ?_))))
      | (refine T_iload_n (pc1 := 103) (pc := 102) k_Te_joined_102 rfl rfl ?_ <;> try ((first | (with_reducible refine T_if_eqN (tgt := 110) (pc1 := 106) (pc := 103) k_Te_joined_103 (by decide) (by decide) (by omega) (fun hc => ?_) (fun hc => ?_) <;> first | (exfalso; omega) | skip) | refine T_if_eq_t (tgt := 110) (pc := 103) k_Te_joined_103 rfl (by decide) ?_ | refine T_if_eq_f (tgt := 110) (pc1 := 106) (pc := 103) k_Te_joined_103 rfl rfl (by decide) ?_ | refine T_if_eq (tgt := 110) (pc1 := 106) (pc := 103) k_Te_joined_103 rfl rfl (fun hc => ?_) (fun hc => ?_))))
      | (refine T_iconst (v := (nI 1)) (pc1 := 107) (pc := 106) k_Te_joined_106 rfl (by decide) ?_ <;> try (refine T_goto (tgt := 111) (pc := 107) k_Te_joined_107 rfl ?_))
      | (refine T_iconst (v := (nI 0)) (pc1 := 111) (pc := 110) k_Te_joined_110 rfl (by decide) ?_)
      | (refine T_retI (pc := 111) k_Te_joined_111 rfl (by first | rfl | decide | assumption) ?_)
      | (refine T_iload_n (pc1 := 113) (pc := 112) k_Te_joined_112 rfl rfl ?_ <;> try (refine T_iload_n (pc1 := 114) (pc := 113) k_Te_joined_113 rfl rfl ?_ <;> try ((first | (with_reducible refine T_icmp_geN (tgt := 121) (pc1 := 117) (pc := 114) k_Te_joined_114 (by decide) (by decide) (by omega) (by omega) (fun hc => ?_) (fun hc => ?_) <;> first | (exfalso; omega) | skip) | refine T_icmp_ge_t (tgt := 121) (pc := 114) k_Te_joined_114 rfl (by decide) ?_ | refine T_icmp_ge_f (tgt := 121) (pc1 := 117) (pc := 114) k_Te_joined_114 rfl rfl (by decide) ?_ | refine T_icmp_ge (tgt := 121) (pc1 := 117) (pc := 114) k_Te_joined_114 rfl rfl (fun hc => ?_) (fun hc => ?_)))))
      | (refine T_iconst (v := (nI 1)) (pc1 := 118) (pc := 117) k_Te_joined_117 rfl (by decide) ?_ <;> try (refine T_goto (tgt := 122) (pc := 118) k_Te_joined_118 rfl ?_))
      | (refine T_iconst (v := (nI 0)) (pc1 := 122) (pc := 121) k_Te_joined_121 rfl (by decide) ?_)
      | (refine T_retI (pc := 122) k_Te_joined_122 rfl (by first | rfl | decide | assumption) ?_)
      | (refine T_iload_n (pc1 := 124) (pc := 123) k_Te_joined_123 rfl rfl ?_ <;> try (refine T_iload_n (pc1 := 125) (pc := 124) k_Te_joined_124 rfl rfl ?_))
      | ((first | (with_reducible refine T_icmp_neN (tgt := 132) (pc1 := 128) (pc := 125) k_Te_joined_125 (by decide) (by decide) (by omega) (by omega) (fun hc => ?_) (fun hc => ?_) <;> first | (exfalso; omega) | skip) | refine T_icmp_ne_t (tgt := 132) (pc := 125) k_Te_joined_125 rfl (by decide) ?_ | refine T_icmp_ne_f (tgt := 132) (pc1 := 128) (pc := 125) k_Te_joined_125 rfl rfl (by decide) ?_ | refine T_icmp_ne (tgt := 132) (pc1 := 128) (pc := 125) k_Te_joined_125 rfl rfl (fun hc => ?_) (fun hc => ?_)))
      | (refine T_iconst (v := (nI 1)) (pc1 := 129) (pc := 128) k_Te_joined_128 rfl (by decide) ?_ <;> try (refine T_goto (tgt := 133) (pc := 129) k_Te_joined_129 rfl ?_))
      | (refine T_iconst (v := (nI 0)) (pc1 := 133) (pc := 132) k_Te_joined_132 rfl (by decide) ?_)
      | (refine T_retI (pc := 133) k_Te_joined_133 rfl (by first | rfl | decide | assumption) ?_)
      | (refine T_iload_n (pc1 := 135) (pc := 134) k_Te_joined_134 rfl rfl ?_ <;> try (refine T_iload_n (pc1 := 136) (pc := 135) k_Te_joined_135 rfl rfl ?_ <;> try ((first | (with_reducible refine T_icmp_leN (tgt := 143) (pc1 := 139) (pc := 136) k_Te_joined_136 (by decide) (by decide) (by omega) (by omega) (fun hc => ?_) (fun hc => ?_) <;> first | (exfalso; omega) | skip) | refine T_icmp_le_t (tgt := 143) (pc := 136) k_Te_joined_136 rfl (by decide) ?_ | refine T_icmp_le_f (tgt := 143) (pc1 := 139) (pc := 136) k_Te_joined_136 rfl rfl (by decide) ?_ | refine T_icmp_le (tgt := 143) (pc1 := 139) (pc := 136) k_Te_joined_136 rfl rfl (fun hc => ?_) (fun hc => ?_)))))
      | (refine T_iconst (v := (nI 1)) (pc1 := 140) (pc := 139) k_Te_joined_139 rfl (by decide) ?_ <;> try (refine T_goto (tgt := 144) (pc := 140) k_Te_joined_140 rfl ?_))
      | (refine T_iconst (v := (nI 0)) (pc1 := 144) (pc := 143) k_Te_joined_143 rfl (by decide) ?_)
      | (refine T_retI (pc := 144) k_Te_joined_144 rfl (by first | rfl | decide | assumption) ?_)
      | (refine T_iload_n (pc1 := 146) (pc := 145) k_Te_joined_145 rfl rfl ?_ <;> try (refine T_iload_n (pc1 := 147) (pc := 146) k_Te_joined_146 rfl rfl ?_ <;> try ((first | with_reducible refine T_iaddN (pc1 := 148) (pc := 147) k_Te_joined_147 (by decide) ?_ | refine T_iadd (pc1 := 148) (pc := 147) k_Te_joined_147 rfl ?_) <;> try (refine T_retI (pc := 148) k_Te_joined_148 rfl (by first | rfl | decide | assumption) ?_))))
      | (refine T_iload_n (pc1 := 150) (pc := 149) k_Te_joined_149 rfl rfl ?_ <;> try (refine T_iload_n (pc1 := 151) (pc := 150) k_Te_joined_150 rfl rfl ?_ <;> try ((first | with_reducible refine T_isubN (pc1 := 152) (pc := 151) k_Te_joined_151 (by decide) (by omega) ?_ | refine T_isub (pc1 := 152) (pc := 151) k_Te_joined_151 rfl ?_) <;> try (refine T_retI (pc := 152) k_Te_joined_152 rfl (by first | rfl | decide | assumption) ?_))))
      | (refine T_iload_n (pc1 := 154) (pc := 153) k_Te_joined_153 rfl rfl ?_ <;> try (refine T_iload_n (pc1 := 155) (pc := 154) k_Te_joined_154 rfl rfl ?_ <;> try ((first | with_reducible refine T_imulN (pc1 := 156) (pc := 155) k_Te_joined_155 (by decide) ?_ | refine T_imul (pc1 := 156) (pc := 155) k_Te_joined_155 rfl ?_) <;> try (refine T_retI (pc := 156) k_Te_joined_156 rfl (by first | rfl | decide | assumption) ?_))))
      | (refine T_iload_n (pc1 := 158) (pc := 157) k_Te_joined_157 rfl rfl ?_ <;> try ((first | (with_reducible refine T_if_neN (tgt := 165) (pc1 := 161) (pc := 158) k_Te_joined_158 (by decide) (by decide) (by omega) (fun hc => ?_) (fun hc => ?_) <;> first | (exfalso; omega) | skip) | refine T_if_ne_t (tgt := 165) (pc := 158) k_Te_joined_158 rfl (by decide) ?_ | refine T_if_ne_f (tgt := 165) (pc1 := 161) (pc := 158) k_Te_joined_158 rfl rfl (by decide) ?_ | refine T_if_ne (tgt := 165) (pc1 := 161) (pc := 158) k_Te_joined_158 rfl rfl (fun hc => ?_) (fun hc => ?_))))
      | (refine T_iconst (v := (nI 0)) (pc1 := 162) (pc := 161) k_Te_joined_161 rfl (by decide) ?_ <;> try (refine T_goto (tgt := 168) (pc := 162) k_Te_joined_162 rfl ?_))
      | (refine T_iload_n (pc1 := 166) (pc := 165) k_Te_joined_165 rfl rfl ?_ <;> try (refine T_iload_n (pc1 := 167) (pc := 166) k_Te_joined_166 rfl rfl ?_ <;> try (refine T_idiv (pc1 := 168) (pc := 167) k_Te_joined_167 rfl (by first | assumption | decide) ?_)))
      | (refine T_retI (pc := 168) k_Te_joined_168 rfl (by first | rfl | decide | assumption) ?_)
      | (refine T_iconst (v := (nI 0)) (pc1 := 170) (pc := 169) k_Te_joined_169 rfl (by decide) ?_ <;> try (refine T_retI (pc := 170) k_Te_joined_170 rfl (by first | rfl | decide | assumption) ?_))
      | (with_reducible refine swN_Te_joined_1 (by omega) (fun hc => ?_) (fun hc => ?_) (fun hc => ?_) (fun hc => ?_) (fun hc => ?_) (fun hc => ?_) (fun hc => ?_) (fun hc => ?_) (fun hc => ?_) (fun hc => ?_) <;> first | (exfalso; omega) | skip)
      | refine sw_Te_joined_1 (fun hc => ?_) (fun hc => ?_) (fun hc => ?_) (fun hc => ?_) (fun hc => ?_) (fun hc => ?_) (fun hc => ?_) (fun hc => ?_) (fun hc => ?_) (fun hc => ?_)
      | (with_reducible refine T_if_neN (tgt := 92) (pc1 := 88) (pc := 85) k_Te_joined_85 (by decide) (by decide) (by omega) (fun hc => ?_) (fun hc => ?_) <;> first | (exfalso; omega) | skip)
      | refine T_if_ne_t (tgt := 92) (pc := 85) k_Te_joined_85 rfl (by decide) ?_
      | refine T_if_ne_f (tgt := 92) (pc1 := 88) (pc := 85) k_Te_joined_85 rfl rfl (by decide) ?_
      | refine T_if_ne (tgt := 92) (pc1 := 88) (pc := 85) k_Te_joined_85 rfl rfl (fun hc => ?_) (fun hc => ?_)
      | (with_reducible refine T_if_eqN (tgt := 96) (pc1 := 92) (pc := 89) k_Te_joined_89 (by decide) (by decide) (by omega) (fun hc => ?_) (fun hc => ?_) <;> first | (exfalso; omega) | skip)
      | refine T_if_eq_t (tgt := 96) (pc := 89) k_Te_joined_89 rfl (by decide) ?_
      | refine T_if_eq_f (tgt := 96) (pc1 := 92) (pc := 89) k_Te_joined_89 rfl rfl (by decide) ?_
      | refine T_if_eq (tgt := 96) (pc1 := 92) (pc := 89) k_Te_joined_89 rfl rfl (fun hc => ?_) (fun hc => ?_)
      | refine T_goto (tgt := 97) (pc := 93) k_Te_joined_93 rfl ?_
      | (with_reducible refine T_if_eqN (tgt := 110) (pc1 := 102) (pc := 99) k_Te_joined_99 (by decide) (by decide) (by omega) (fun hc => ?_) (fun hc => ?_) <;> first | (exfalso; omega) | skip)
      | refine T_if_eq_t (tgt := 110) (pc := 99) k_Te_joined_99 rfl (by decide) ?_
      | refine T_if_eq_f (tgt := 110) (pc1 := 102) (pc := 99) k_Te_joined_99 rfl rfl (by decide) ?_
      | refine T_if_eq (tgt := 110) (pc1 := 102) (pc := 99) k_Te_joined_99 rfl rfl (fun hc => ?_) (fun hc => ?_)
      | (with_reducible refine T_if_eqN (tgt := 110) (pc1 := 106) (pc := 103) k_Te_joined_103 (by decide) (by decide) (by omega) (fun hc => ?_) (fun hc => ?_) <;> first | (exfalso; omega) | skip)
      | refine T_if_eq_t (tgt := 110) (pc := 103) k_Te_joined_103 rfl (by decide) ?_
      | refine T_if_eq_f (tgt := 110) (pc1 := 106) (pc := 103) k_Te_joined_103 rfl rfl (by decide) ?_
      | refine T_if_eq (tgt := 110) (pc1 := 106) (pc := 103) k_Te_joined_103 rfl rfl (fun hc => ?_) (fun hc => ?_)
      | refine T_goto (tgt := 111) (pc := 107) k_Te_joined_107 rfl ?_
      | refine T_iload_n (pc1 := 114) (pc := 113) k_Te_joined_113 rfl rfl ?_
      | (with_reducible refine T_icmp_geN (tgt := 121) (pc1 := 117) (pc := 114) k_Te_joined_114 (by decide) (by decide) (by omega) (by omega) (fun hc => ?_) (fun hc => ?_) <;> first | (exfalso; omega) | skip)
      | refine T_icmp_ge_t (tgt := 121) (pc := 114) k_Te_joined_114 rfl (by decide) ?_
      | refine T_icmp_ge_f (tgt := 121) (pc1 := 117) (pc := 114) k_Te_joined_114 rfl rfl (by decide) ?_
      | refine T_icmp_ge (tgt := 121) (pc1 := 117) (pc := 114) k_Te_joined_114 rfl rfl (fun hc => ?_) (fun hc => ?_)
      | refine T_goto (tgt := 122) (pc := 118) k_Te_joined_118 rfl ?_
      | refine T_iload_n (pc1 := 125) (pc := 124) k_Te_joined_124 rfl rfl ?_
      | refine T_goto (tgt := 133) (pc := 129) k_Te_joined_129 rfl ?_
      | refine T_iload_n (pc1 := 136) (pc := 135) k_Te_joined_135 rfl rfl ?_
      | (with_reducible refine T_icmp_leN (tgt := 143) (pc1 := 139) (pc := 136) k_Te_joined_136 (by decide) (by decide) (by omega) (by omega) (fun hc => ?_) (fun hc => ?_) <;> first | (exfalso; omega) | skip)
      | refine T_icmp_le_t (tgt := 143) (pc := 136) k_Te_joined_136 rfl (by decide) ?_
      | refine T_icmp_le_f (tgt := 143) (pc1 := 139) (pc := 136) k_Te_joined_136 rfl rfl (by decide) ?_
      | refine T_icmp_le (tgt := 143) (pc1 := 139) (pc := 136) k_Te_joined_136 rfl rfl (fun hc => ?_) (fun hc => ?_)
      | refine T_goto (tgt := 144) (pc := 140) k_Te_joined_140 rfl ?_
      | refine T_iload_n (pc1 := 147) (pc := 146) k_Te_joined_146 rfl rfl ?_
      | with_reducible refine T_iaddN (pc1 := 148) (pc := 147) k_Te_joined_147 (by decide) ?_
      | refine T_iadd (pc1 := 148) (pc := 147) k_Te_joined_147 rfl ?_
      | refine T_retI (pc := 148) k_Te_joined_148 rfl (by first | rfl | decide | assumption) ?_
      | refine T_iload_n (pc1 := 151) (pc := 150) k_Te_joined_150 rfl rfl ?_
      | with_reducible refine T_isubN (pc1 := 152) (pc := 151) k_Te_joined_151 (by decide) (by omega) ?_
      | refine T_isub (pc1 := 152) (pc := 151) k_Te_joined_151 rfl ?_
      | refine T_retI (pc := 152) k_Te_joined_152 rfl (by first | rfl | decide | assumption) ?_
      | refine T_iload_n (pc1 := 155) (pc := 154) k_Te_joined_154 rfl rfl ?_
      | with_reducible refine T_imulN (pc1 := 156) (pc := 155) k_Te_joined_155 (by decide) ?_
      | refine T_imul (pc1 := 156) (pc := 155) k_Te_joined_155 rfl ?_
      | refine T_retI (pc := 156) k_Te_joined_156 rfl (by first | rfl | decide | assumption) ?_
      | (with_reducible refine T_if_neN (tgt := 165) (pc1 := 161) (pc := 158) k_Te_joined_158 (by decide) (by decide) (by omega) (fun hc => ?_) (fun hc => ?_) <;> first | (exfalso; omega) | skip)
      | refine T_if_ne_t (tgt := 165) (pc := 158) k_Te_joined_158 rfl (by decide) ?_
      | refine T_if_ne_f (tgt := 165) (pc1 := 161) (pc := 158) k_Te_joined_158 rfl rfl (by decide) ?_
      | refine T_if_ne (tgt := 165) (pc1 := 161) (pc := 158) k_Te_joined_158 rfl rfl (fun hc => ?_) (fun hc => ?_)
      | refine T_goto (tgt := 168) (pc := 162) k_Te_joined_162 rfl ?_
      | refine T_iload_n (pc1 := 167) (pc := 166) k_Te_joined_166 rfl rfl ?_
      | refine T_idiv (pc1 := 168) (pc := 167) k_Te_joined_167 rfl (by first | assumption | decide) ?_
      | refine T_retI (pc := 170) k_Te_joined_170 rfl (by first | rfl | decide | assumption) ?_)
    all_goals (refine kk _ ?_; simp [*])
  rw [if_neg c1]
  rw [if_neg c1] at kk
  by_cases c2 : op = -22
  · rw [if_pos c2]
    rw [if_pos c2] at kk
    repeat' (first
      | (refine T_iload_n (pc1 := 1) (pc := 0) k_Te_joined_0 rfl rfl ?_ <;> try ((first | (with_reducible refine swN_Te_joined_1 (by omega) (fun hc => ?_) (fun hc => ?_) (fun hc => ?_) (fun hc => ?_) (fun hc => ?_) (fun hc => ?_) (fun hc => ?_) (fun hc => ?_) (fun hc => ?_) (fun hc => ?_) <;> first | (exfalso; omega) | skip) | refine sw_Te_joined_1 (fun hc => ?_) (fun hc => ?_) (fun hc => ?_) (fun hc => ?_) (fun hc => ?_) (fun hc => ?_) (fun hc => ?_) (fun hc => ?_) (fun hc => ?_) (fun hc => ?_))))
      | (refine T_iload_n (pc1 := 85) (pc := 84) k_Te_joined_84 rfl rfl ?_ <;> try ((first | (with_reducible refine T_if_neN (tgt := 92) (pc1 := 88) (pc := 85) k_Te_joined_85 (by decide) (by decide) (by omega) (fun hc => ?_) (fun hc => ?_) <;> first | (exfalso; omega) | skip) | refine T_if_ne_t (tgt := 92) (pc := 85) k_Te_joined_85 rfl (by decide) ?_ | refine T_if_ne_f (tgt := 92) (pc1 := 88) (pc := 85) k_Te_joined_85 rfl rfl (by decide) ?_ | refine T_if_ne (tgt := 92) (pc1 := 88) (pc := 85) k_Te_joined_85 rfl rfl (fun hc => ?_) (fun hc => ?_))))
      | (refine T_iload_n (pc1 := 89) (pc := 88) k_Te_joined_88 rfl rfl ?_ <;> try ((first | (with_reducible refine T_if_eqN (tgt := 96) (pc1 := 92) (pc := 89) k_Te_joined_89 (by decide) (by decide) (by omega) (fun hc => ?_) (fun hc => ?_) <;> first | (exfalso; omega) | skip) | refine T_if_eq_t (tgt := 96) (pc := 89) k_Te_joined_89 rfl (by decide) ?_ | refine T_if_eq_f (tgt := 96) (pc1 := 92) (pc := 89) k_Te_joined_89 rfl rfl (by decide) ?_ | refine T_if_eq (tgt := 96) (pc1 := 92) (pc := 89) k_Te_joined_89 rfl rfl (fun hc => ?_) (fun hc => ?_))))
      | (refine T_iconst (v := (nI 1)) (pc1 := 93) (pc := 92) k_Te_joined_92 rfl (by decide) ?_ <;> try (refine T_goto (tgt := 97) (pc := 93) k_Te_joined_93 rfl ?_))
      | (refine T_iconst (v := (nI 0)) (pc1 := 97) (pc := 96) k_Te_joined_96 rfl (by decide) ?_)
      | (refine T_retI (pc := 97) k_Te_joined_97 rfl (by first | rfl | decide | assumption) ?_)
      | (refine T_iload_n (pc1 := 99) (pc := 98) k_Te_joined_98 rfl rfl ?_ <;> try ((first | (with_reducible refine T_if_eqN (tgt := 110) (pc1 := 102) (pc := 99) k_Te_joined_99 (by decide) (by decide) (by omega) (fun hc => ?_) (fun hc => ?_) <;> first | (exfalso; omega) | skip) | refine T_if_eq_t (tgt := 110) (pc := 99) k_Te_joined_99 rfl (by decide) ?_ | refine T_if_eq_f (tgt := 110) (pc1 := 102) (pc := 99) k_Te_joined_99 rfl rfl (by decide) ?_ | refine T_if_eq (tgt := 110) (pc1 := 102) (pc := 99) k_Te_joined_99 rfl rfl (fun hc => ?_) (fun hc => ?_))))
      | (refine T_iload_n (pc1 := 103) (pc := 102) k_Te_joined_102 rfl rfl ?_ <;> try ((first | (with_reducible refine T_if_eqN (tgt := 110) (pc1 := 106) (pc := 103) k_Te_joined_103 (by decide) (by decide) (by omega) (fun hc => ?_) (fun hc => ?_) <;> first | (exfalso; omega) | skip) | refine T_if_eq_t (tgt := 110) (pc := 103) k_Te_joined_103 rfl (by decide) ?_ | refine T_if_eq_f (tgt := 110) (pc1 := 106) (pc := 103) k_Te_joined_103 rfl rfl (by decide) ?_ | refine T_if_eq (tgt := 110) (pc1 := 106) (pc := 103) k_Te_joined_103 rfl rfl (fun hc => ?_) (fun hc => ?_))))
      | (refine T_iconst (v := (nI 1)) (pc1 := 107) (pc := 106) k_Te_joined_106 rfl (by decide) ?_ <;> try (refine T_goto (tgt := 111) (pc := 107) k_Te_joined_107 rfl ?_))
      | (refine T_iconst (v := (nI 0)) (pc1 := 111) (pc := 110) k_Te_joined_110 rfl (by decide) ?_)
      | (refine T_retI (pc := 111) k_Te_joined_111 rfl (by first | rfl | decide | assumption) ?_)
      | (refine T_iload_n (pc1 := 113) (pc := 112) k_Te_joined_112 rfl rfl ?_ <;> try (refine T_iload_n (pc1 := 114) (pc := 113) k_Te_joined_113 rfl rfl ?_ <;> try ((first | (with_reducible refine T_icmp_geN (tgt := 121) (pc1 := 117) (pc := 114) k_Te_joined_114 (by decide) (by decide) (by omega) (by omega) (fun hc => ?_) (fun hc => ?_) <;> first | (exfalso; omega) | skip) | refine T_icmp_ge_t (tgt := 121) (pc := 114) k_Te_joined_114 rfl (by decide) ?_ | refine T_icmp_ge_f (tgt := 121) (pc1 := 117) (pc := 114) k_Te_joined_114 rfl rfl (by decide) ?_ | refine T_icmp_ge (tgt := 121) (pc1 := 117) (pc := 114) k_Te_joined_114 rfl rfl (fun hc => ?_) (fun hc => ?_)))))
      | (refine T_iconst (v := (nI 1)) (pc1 := 118) (pc := 117) k_Te_joined_117 rfl (by decide) ?_ <;> try (refine T_goto (tgt := 122) (pc := 118) k_Te_joined_118 rfl ?_))
      | (refine T_iconst (v := (nI 0)) (pc1 := 122) (pc := 121) k_Te_joined_121 rfl (by decide) ?_)
      | (refine T_retI (pc := 122) k_Te_joined_122 rfl (by first | rfl | decide | assumption) ?_)
      | (refine T_iload_n (pc1 := 124) (pc := 123) k_Te_joined_123 rfl rfl ?_ <;> try (refine T_iload_n (pc1 := 125) (pc := 124) k_Te_joined_124 rfl rfl ?_))
      | ((first | (with_reducible refine T_icmp_neN (tgt := 132) (pc1 := 128) (pc := 125) k_Te_joined_125 (by decide) (by decide) (by omega) (by omega) (fun hc => ?_) (fun hc => ?_) <;> first | (exfalso; omega) | skip) | refine T_icmp_ne_t (tgt := 132) (pc := 125) k_Te_joined_125 rfl (by decide) ?_ | refine T_icmp_ne_f (tgt := 132) (pc1 := 128) (pc := 125) k_Te_joined_125 rfl rfl (by decide) ?_ | refine T_icmp_ne (tgt := 132) (pc1 := 128) (pc := 125) k_Te_joined_125 rfl rfl (fun hc => ?_) (fun hc => ?_)))
      | (refine T_iconst (v := (nI 1)) (pc1 := 129) (pc := 128) k_Te_joined_128 rfl (by decide) ?_ <;> try (refine T_goto (tgt := 133) (pc := 129) k_Te_joined_129 rfl ?_))
      | (refine T_iconst (v := (nI 0)) (pc1 := 133) (pc := 132) k_Te_joined_132 rfl (by decide) ?_)
      | (refine T_retI (pc := 133) k_Te_joined_133 rfl (by first | rfl | decide | assumption) ?_)
      | (refine T_iload_n (pc1 := 135) (pc := 134) k_Te_joined_134 rfl rfl ?_ <;> try (refine T_iload_n (pc1 := 136) (pc := 135) k_Te_joined_135 rfl rfl ?_ <;> try ((first | (with_reducible refine T_icmp_leN (tgt := 143) (pc1 := 139) (pc := 136) k_Te_joined_136 (by decide) (by decide) (by omega) (by omega) (fun hc => ?_) (fun hc => ?_) <;> first | (exfalso; omega) | skip) | refine T_icmp_le_t (tgt := 143) (pc := 136) k_Te_joined_136 rfl (by decide) ?_ | refine T_icmp_le_f (tgt := 143) (pc1 := 139) (pc := 136) k_Te_joined_136 rfl rfl (by decide) ?_ | refine T_icmp_le (tgt := 143) (pc1 := 139) (pc := 136) k_Te_joined_136 rfl rfl (fun hc => ?_) (fun hc => ?_)))))
      | (refine T_iconst (v := (nI 1)) (pc1 := 140) (pc := 139) k_Te_joined_139 rfl (by decide) ?_ <;> try (refine T_goto (tgt := 144) (pc := 140) k_Te_joined_140 rfl ?_))
      | (refine T_iconst (v := (nI 0)) (pc1 := 144) (pc := 143) k_Te_joined_143 rfl (by decide) ?_)
      | (refine T_retI (pc := 144) k_Te_joined_144 rfl (by first | rfl | decide | assumption) ?_)
      | (refine T_iload_n (pc1 := 146) (pc := 145) k_Te_joined_145 rfl rfl ?_ <;> try (refine T_iload_n (pc1 := 147) (pc := 146) k_Te_joined_146 rfl rfl ?_ <;> try ((first | with_reducible refine T_iaddN (pc1 := 148) (pc := 147) k_Te_joined_147 (by decide) ?_ | refine T_iadd (pc1 := 148) (pc := 147) k_Te_joined_147 rfl ?_) <;> try (refine T_retI (pc := 148) k_Te_joined_148 rfl (by first | rfl | decide | assumption) ?_))))
      | (refine T_iload_n (pc1 := 150) (pc := 149) k_Te_joined_149 rfl rfl ?_ <;> try (refine T_iload_n (pc1 := 151) (pc := 150) k_Te_joined_150 rfl rfl ?_ <;> try ((first | with_reducible refine T_isubN (pc1 := 152) (pc := 151) k_Te_joined_151 (by decide) (by omega) ?_ | refine T_isub (pc1 := 152) (pc := 151) k_Te_joined_151 rfl ?_) <;> try (refine T_retI (pc := 152) k_Te_joined_152 rfl (by first | rfl | decide | assumption) ?_))))
      | (refine T_iload_n (pc1 := 154) (pc := 153) k_Te_joined_153 rfl rfl ?_ <;> try (refine T_iload_n (pc1 := 155) (pc := 154) k_Te_joined_154 rfl rfl ?_ <;> try ((first | with_reducible refine T_imulN (pc1 := 156) (pc := 155) k_Te_joined_155 (by decide) ?_ | refine T_imul (pc1 := 156) (pc := 155) k_Te_joined_155 rfl ?_) <;> try (refine T_retI (pc := 156) k_Te_joined_156 rfl (by first | rfl | decide | assumption) ?_))))
      | (refine T_iload_n (pc1 := 158) (pc := 157) k_Te_joined_157 rfl rfl ?_ <;> try ((first | (with_reducible refine T_if_neN (tgt := 165) (pc1 := 161) (pc := 158) k_Te_joined_158 (by decide) (by decide) (by omega) (fun hc => ?_) (fun hc => ?_) <;> first | (exfalso; omega) | skip) | refine T_if_ne_t (tgt := 165) (pc := 158) k_Te_joined_158 rfl (by decide) ?_ | refine T_if_ne_f (tgt := 165) (pc1 := 161) (pc := 158) k_Te_joined_158 rfl rfl (by decide) ?_ | refine T_if_ne (tgt := 165) (pc1 := 161) (pc := 158) k_Te_joined_158 rfl rfl (fun hc => ?_) (fun hc => ?_))))
      | (refine T_iconst (v := (nI 0)) (pc1 := 162) (pc := 161) k_Te_joined_161 rfl (by decide) ?_ <;> try (refine T_goto (tgt := 168) (pc := 162) k_Te_joined_162 rfl ?_))
      | (refine T_iload_n (pc1 := 166) (pc := 165) k_Te_joined_165 rfl rfl ?_ <;> try (refine T_iload_n (pc1 := 167) (pc := 166) k_Te_joined_166 rfl rfl ?_ <;> try (refine T_idiv (pc1 := 168) (pc := 167) k_Te_joined_167 rfl (by first | assumption | decide) ?_)))
      | (refine T_retI (pc := 168) k_Te_joined_168 rfl (by first | rfl | decide | assumption) ?_)
      | (refine T_iconst (v := (nI 0)) (pc1 := 170) (pc := 169) k_Te_joined_169 rfl (by decide) ?_ <;> try (refine T_retI (pc := 170) k_Te_joined_170 rfl (by first | rfl | decide | assumption) ?_))
      | (with_reducible refine swN_Te_joined_1 (by omega) (fun hc => ?_) (fun hc => ?_) (fun hc => ?_) (fun hc => ?_) (fun hc => ?_) (fun hc => ?_) (fun hc => ?_) (fun hc => ?_) (fun hc => ?_) (fun hc => ?_) <;> first | (exfalso; omega) | skip)
      | refine sw_Te_joined_1 (fun hc => ?_) (fun hc => ?_) (fun hc => ?_) (fun hc => ?_) (fun hc => ?_) (fun hc => ?_) (fun hc => ?_) (fun hc => ?_) (fun hc => ?_) (fun hc => ?_)
      | (with_reducible refine T_if_neN (tgt := 92) (pc1 := 88) (pc := 85) k_Te_joined_85 (by decide) (by decide) (by omega) (fun hc => ?_) (fun hc => ?_) <;> first | (exfalso; omega) | skip)
      | refine T_if_ne_t (tgt := 92) (pc := 85) k_Te_joined_85 rfl (by decide) ?_
      | refine T_if_ne_f (tgt := 92) (pc1 := 88) (pc := 85) k_Te_joined_85 rfl rfl (by decide) ?_
      | refine T_if_ne (tgt := 92) (pc1 := 88) (pc := 85) k_Te_joined_85 rfl rfl (fun hc => ?_) (fun hc => ?_)
      | (with_reducible refine T_if_eqN (tgt := 96) (pc1 := 92) (pc := 89) k_Te_joined_89 (by decide) (by decide) (by omega) (fun hc => ?_) (fun hc => ?_) <;> first | (exfalso; omega) | skip)
      | refine T_if_eq_t (tgt := 96) (pc := 89) k_Te_joined_89 rfl (by decide) ?_
      | refine T_if_eq_f (tgt := 96) (pc1 := 92) (pc := 89) k_Te_joined_89 rfl rfl (by decide) ?_
      | refine T_if_eq (tgt := 96) (pc1 := 92) (pc := 89) k_Te_joined_89 rfl rfl (fun hc => ?_) (fun hc => ?_)
      | refine T_goto (tgt := 97) (pc := 93) k_Te_joined_93 rfl ?_
      | (with_reducible refine T_if_eqN (tgt := 110) (pc1 := 102) (pc := 99) k_Te_joined_99 (by decide) (by decide) (by omega) (fun hc => ?_) (fun hc => ?_) <;> first | (exfalso; omega) | skip)
      | refine T_if_eq_t (tgt := 110) (pc := 99) k_Te_joined_99 rfl (by decide) ?_
      | refine T_if_eq_f (tgt := 110) (pc1 := 102) (pc := 99) k_Te_joined_99 rfl rfl (by decide) ?_
      | refine T_if_eq (tgt := 110) (pc1 := 102) (pc := 99) k_Te_joined_99 rfl rfl (fun hc => ?_) (fun hc => ?_)
      | (with_reducible refine T_if_eqN (tgt := 110) (pc1 := 106) (pc := 103) k_Te_joined_103 (by decide) (by decide) (by omega) (fun hc => ?_) (fun hc => ?_) <;> first | (exfalso; omega) | skip)
      | refine T_if_eq_t (tgt := 110) (pc := 103) k_Te_joined_103 rfl (by decide) ?_
      | refine T_if_eq_f (tgt := 110) (pc1 := 106) (pc := 103) k_Te_joined_103 rfl rfl (by decide) ?_
      | refine T_if_eq (tgt := 110) (pc1 := 106) (pc := 103) k_Te_joined_103 rfl rfl (fun hc => ?_) (fun hc => ?_)
      | refine T_goto (tgt := 111) (pc := 107) k_Te_joined_107 rfl ?_
      | refine T_iload_n (pc1 := 114) (pc := 113) k_Te_joined_113 rfl rfl ?_
      | (with_reducible refine T_icmp_geN (tgt := 121) (pc1 := 117) (pc := 114) k_Te_joined_114 (by decide) (by decide) (by omega) (by omega) (fun hc => ?_) (fun hc => ?_) <;> first | (exfalso; omega) | skip)
      | refine T_icmp_ge_t (tgt := 121) (pc := 114) k_Te_joined_114 rfl (by decide) ?_
      | refine T_icmp_ge_f (tgt := 121) (pc1 := 117) (pc := 114) k_Te_joined_114 rfl rfl (by decide) ?_
      | refine T_icmp_ge (tgt := 121) (pc1 := 117) (pc := 114) k_Te_joined_114 rfl rfl (fun hc => ?_) (fun hc => ?_)
      | refine T_goto (tgt := 122) (pc := 118) k_Te_joined_118 rfl ?_
      | refine T_iload_n (pc1 := 125) (pc := 124) k_Te_joined_124 rfl rfl ?_
      | refine T_goto (tgt := 133) (pc := 129) k_Te_joined_129 rfl ?_
      | refine T_iload_n (pc1 := 136) (pc := 135) k_Te_joined_135 rfl rfl ?_
      | (with_reducible refine T_icmp_leN (tgt := 143) (pc1 := 139) (pc := 136) k_Te_joined_136 (by decide) (by decide) (by omega) (by omega) (fun hc => ?_) (fun hc => ?_) <;> first | (exfalso; omega) | skip)
      | refine T_icmp_le_t (tgt := 143) (pc := 136) k_Te_joined_136 rfl (by decide) ?_
      | refine T_icmp_le_f (tgt := 143) (pc1 := 139) (pc := 136) k_Te_joined_136 rfl rfl (by decide) ?_
      | refine T_icmp_le (tgt := 143) (pc1 := 139) (pc := 136) k_Te_joined_136 rfl rfl (fun hc => ?_) (fun hc => ?_)
      | refine T_goto (tgt := 144) (pc := 140) k_Te_joined_140 rfl ?_
      | refine T_iload_n (pc1 := 147) (pc := 146) k_Te_joined_146 rfl rfl ?_
      | with_reducible refine T_iaddN (pc1 := 148) (pc := 147) k_Te_joined_147 (by decide) ?_
      | refine T_iadd (pc1 := 148) (pc := 147) k_Te_joined_147 rfl ?_
      | refine T_retI (pc := 148) k_Te_joined_148 rfl (by first | rfl | decide | assumption) ?_
      | refine T_iload_n (pc1 := 151) (pc := 150) k_Te_joined_150 rfl rfl ?_
      | with_reducible refine T_isubN (pc1 := 152) (pc := 151) k_Te_joined_151 (by decide) (by omega) ?_
      | refine T_isub (pc1 := 152) (pc := 151) k_Te_joined_151 rfl ?_
      | refine T_retI (pc := 152) k_Te_joined_152 rfl (by first | rfl | decide | assumption) ?_
      | refine T_iload_n (pc1 := 155) (pc := 154) k_Te_joined_154 rfl rfl ?_
      | with_reducible refine T_imulN (pc1 := 156) (pc := 155) k_Te_joined_155 (by decide) ?_
      | refine T_imul (pc1 := 156) (pc := 155) k_Te_joined_155 rfl ?_
      | refine T_retI (pc := 156) k_Te_joined_156 rfl (by first | rfl | decide | assumption) ?_
      | (with_reducible refine T_if_neN (tgt := 165) (pc1 := 161) (pc := 158) k_Te_joined_158 (by decide) (by decide) (by omega) (fun hc => ?_) (fun hc => ?_) <;> first | (exfalso; omega) | skip)
      | refine T_if_ne_t (tgt := 165) (pc := 158) k_Te_joined_158 rfl (by decide) ?_
      | refine T_if_ne_f (tgt := 165) (pc1 := 161) (pc := 158) k_Te_joined_158 rfl rfl (by decide) ?_
      | refine T_if_ne (tgt := 165) (pc1 := 161) (pc := 158) k_Te_joined_158 rfl rfl (fun hc => ?_) (fun hc => ?_)
      | refine T_goto (tgt := 168) (pc := 162) k_Te_joined_162 rfl ?_
      | refine T_iload_n (pc1 := 167) (pc := 166) k_Te_joined_166 rfl rfl ?_
      | refine T_idiv (pc1 := 168) (pc := 167) k_Te_joined_167 rfl (by first | assumption | decide) ?_
      | refine T_retI (pc := 170) k_Te_joined_170 rfl (by first | rfl | decide | assumption) ?_)
    · exact kk _ (by rw [if_neg (Int32.not_lt.mpr (by assumption))])
    · exact kk _ (by rw [if_pos (Int32.not_le.mp (by assumption))])
  rw [if_neg c2]
  rw [if_neg c2] at kk
  by_cases c3 : op = -23
  · rw [if_pos c3]
    rw [if_pos c3] at kk
    repeat' (first
      | (refine T_iload_n (pc1 := 1) (pc := 0) k_Te_joined_0 rfl rfl ?_ <;> try ((first | (with_reducible refine swN_Te_joined_1 (by omega) (fun hc => ?_) (fun hc => ?_) (fun hc => ?_) (fun hc => ?_) (fun hc => ?_) (fun hc => ?_) (fun hc => ?_) (fun hc => ?_) (fun hc => ?_) (fun hc => ?_) <;> first | (exfalso; omega) | skip) | refine sw_Te_joined_1 (fun hc => ?_) (fun hc => ?_) (fun hc => ?_) (fun hc => ?_) (fun hc => ?_) (fun hc => ?_) (fun hc => ?_) (fun hc => ?_) (fun hc => ?_) (fun hc => ?_))))
      | (refine T_iload_n (pc1 := 85) (pc := 84) k_Te_joined_84 rfl rfl ?_ <;> try ((first | (with_reducible refine T_if_neN (tgt := 92) (pc1 := 88) (pc := 85) k_Te_joined_85 (by decide) (by decide) (by omega) (fun hc => ?_) (fun hc => ?_) <;> first | (exfalso; omega) | skip) | refine T_if_ne_t (tgt := 92) (pc := 85) k_Te_joined_85 rfl (by decide) ?_ | refine T_if_ne_f (tgt := 92) (pc1 := 88) (pc := 85) k_Te_joined_85 rfl rfl (by decide) ?_ | refine T_if_ne (tgt := 92) (pc1 := 88) (pc := 85) k_Te_joined_85 rfl rfl (fun hc => ?_) (fun hc => ?_))))
      | (refine T_iload_n (pc1 := 89) (pc := 88) k_Te_joined_88 rfl rfl ?_ <;> try ((first | (with_reducible refine T_if_eqN (tgt := 96) (pc1 := 92) (pc := 89) k_Te_joined_89 (by decide) (by decide) (by omega) (fun hc => ?_) (fun hc => ?_) <;> first | (exfalso; omega) | skip) | refine T_if_eq_t (tgt := 96) (pc := 89) k_Te_joined_89 rfl (by decide) ?_ | refine T_if_eq_f (tgt := 96) (pc1 := 92) (pc := 89) k_Te_joined_89 rfl rfl (by decide) ?_ | refine T_if_eq (tgt := 96) (pc1 := 92) (pc := 89) k_Te_joined_89 rfl rfl (fun hc => ?_) (fun hc => ?_))))
      | (refine T_iconst (v := (nI 1)) (pc1 := 93) (pc := 92) k_Te_joined_92 rfl (by decide) ?_ <;> try (refine T_goto (tgt := 97) (pc := 93) k_Te_joined_93 rfl ?_))
      | (refine T_iconst (v := (nI 0)) (pc1 := 97) (pc := 96) k_Te_joined_96 rfl (by decide) ?_)
      | (refine T_retI (pc := 97) k_Te_joined_97 rfl (by first | rfl | decide | assumption) ?_)
      | (refine T_iload_n (pc1 := 99) (pc := 98) k_Te_joined_98 rfl rfl ?_ <;> try ((first | (with_reducible refine T_if_eqN (tgt := 110) (pc1 := 102) (pc := 99) k_Te_joined_99 (by decide) (by decide) (by omega) (fun hc => ?_) (fun hc => ?_) <;> first | (exfalso; omega) | skip) | refine T_if_eq_t (tgt := 110) (pc := 99) k_Te_joined_99 rfl (by decide) ?_ | refine T_if_eq_f (tgt := 110) (pc1 := 102) (pc := 99) k_Te_joined_99 rfl rfl (by decide) ?_ | refine T_if_eq (tgt := 110) (pc1 := 102) (pc := 99) k_Te_joined_99 rfl rfl (fun hc => ?_) (fun hc => ?_))))
      | (refine T_iload_n (pc1 := 103) (pc := 102) k_Te_joined_102 rfl rfl ?_ <;> try ((first | (with_reducible refine T_if_eqN (tgt := 110) (pc1 := 106) (pc := 103) k_Te_joined_103 (by decide) (by decide) (by omega) (fun hc => ?_) (fun hc => ?_) <;> first | (exfalso; omega) | skip) | refine T_if_eq_t (tgt := 110) (pc := 103) k_Te_joined_103 rfl (by decide) ?_ | refine T_if_eq_f (tgt := 110) (pc1 := 106) (pc := 103) k_Te_joined_103 rfl rfl (by decide) ?_ | refine T_if_eq (tgt := 110) (pc1 := 106) (pc := 103) k_Te_joined_103 rfl rfl (fun hc => ?_) (fun hc => ?_))))
      | (refine T_iconst (v := (nI 1)) (pc1 := 107) (pc := 106) k_Te_joined_106 rfl (by decide) ?_ <;> try (refine T_goto (tgt := 111) (pc := 107) k_Te_joined_107 rfl ?_))
      | (refine T_iconst (v := (nI 0)) (pc1 := 111) (pc := 110) k_Te_joined_110 rfl (by decide) ?_)
      | (refine T_retI (pc := 111) k_Te_joined_111 rfl (by first | rfl | decide | assumption) ?_)
      | (refine T_iload_n (pc1 := 113) (pc := 112) k_Te_joined_112 rfl rfl ?_ <;> try (refine T_iload_n (pc1 := 114) (pc := 113) k_Te_joined_113 rfl rfl ?_ <;> try ((first | (with_reducible refine T_icmp_geN (tgt := 121) (pc1 := 117) (pc := 114) k_Te_joined_114 (by decide) (by decide) (by omega) (by omega) (fun hc => ?_) (fun hc => ?_) <;> first | (exfalso; omega) | skip) | refine T_icmp_ge_t (tgt := 121) (pc := 114) k_Te_joined_114 rfl (by decide) ?_ | refine T_icmp_ge_f (tgt := 121) (pc1 := 117) (pc := 114) k_Te_joined_114 rfl rfl (by decide) ?_ | refine T_icmp_ge (tgt := 121) (pc1 := 117) (pc := 114) k_Te_joined_114 rfl rfl (fun hc => ?_) (fun hc => ?_)))))
      | (refine T_iconst (v := (nI 1)) (pc1 := 118) (pc := 117) k_Te_joined_117 rfl (by decide) ?_ <;> try (refine T_goto (tgt := 122) (pc := 118) k_Te_joined_118 rfl ?_))
      | (refine T_iconst (v := (nI 0)) (pc1 := 122) (pc := 121) k_Te_joined_121 rfl (by decide) ?_)
      | (refine T_retI (pc := 122) k_Te_joined_122 rfl (by first | rfl | decide | assumption) ?_)
      | (refine T_iload_n (pc1 := 124) (pc := 123) k_Te_joined_123 rfl rfl ?_ <;> try (refine T_iload_n (pc1 := 125) (pc := 124) k_Te_joined_124 rfl rfl ?_))
      | ((first | (with_reducible refine T_icmp_neN (tgt := 132) (pc1 := 128) (pc := 125) k_Te_joined_125 (by decide) (by decide) (by omega) (by omega) (fun hc => ?_) (fun hc => ?_) <;> first | (exfalso; omega) | skip) | refine T_icmp_ne_t (tgt := 132) (pc := 125) k_Te_joined_125 rfl (by decide) ?_ | refine T_icmp_ne_f (tgt := 132) (pc1 := 128) (pc := 125) k_Te_joined_125 rfl rfl (by decide) ?_ | refine T_icmp_ne (tgt := 132) (pc1 := 128) (pc := 125) k_Te_joined_125 rfl rfl (fun hc => ?_) (fun hc => ?_)))
      | (refine T_iconst (v := (nI 1)) (pc1 := 129) (pc := 128) k_Te_joined_128 rfl (by decide) ?_ <;> try (refine T_goto (tgt := 133) (pc := 129) k_Te_joined_129 rfl ?_))
      | (refine T_iconst (v := (nI 0)) (pc1 := 133) (pc := 132) k_Te_joined_132 rfl (by decide) ?_)
      | (refine T_retI (pc := 133) k_Te_joined_133 rfl (by first | rfl | decide | assumption) ?_)
      | (refine T_iload_n (pc1 := 135) (pc := 134) k_Te_joined_134 rfl rfl ?_ <;> try (refine T_iload_n (pc1 := 136) (pc := 135) k_Te_joined_135 rfl rfl ?_ <;> try ((first | (with_reducible refine T_icmp_leN (tgt := 143) (pc1 := 139) (pc := 136) k_Te_joined_136 (by decide) (by decide) (by omega) (by omega) (fun hc => ?_) (fun hc => ?_) <;> first | (exfalso; omega) | skip) | refine T_icmp_le_t (tgt := 143) (pc := 136) k_Te_joined_136 rfl (by decide) ?_ | refine T_icmp_le_f (tgt := 143) (pc1 := 139) (pc := 136) k_Te_joined_136 rfl rfl (by decide) ?_ | refine T_icmp_le (tgt := 143) (pc1 := 139) (pc := 136) k_Te_joined_136 rfl rfl (fun hc => ?_) (fun hc => ?_)))))
      | (refine T_iconst (v := (nI 1)) (pc1 := 140) (pc := 139) k_Te_joined_139 rfl (by decide) ?_ <;> try (refine T_goto (tgt := 144) (pc := 140) k_Te_joined_140 rfl ?_))
      | (refine T_iconst (v := (nI 0)) (pc1 := 144) (pc := 143) k_Te_joined_143 rfl (by decide) ?_)
      | (refine T_retI (pc := 144) k_Te_joined_144 rfl (by first | rfl | decide | assumption) ?_)
      | (refine T_iload_n (pc1 := 146) (pc := 145) k_Te_joined_145 rfl rfl ?_ <;> try (refine T_iload_n (pc1 := 147) (pc := 146) k_Te_joined_146 rfl rfl ?_ <;> try ((first | with_reducible refine T_iaddN (pc1 := 148) (pc := 147) k_Te_joined_147 (by decide) ?_ | refine T_iadd (pc1 := 148) (pc := 147) k_Te_joined_147 rfl ?_) <;> try (refine T_retI (pc := 148) k_Te_joined_148 rfl (by first | rfl | decide | assumption) ?_))))
      | (refine T_iload_n (pc1 := 150) (pc := 149) k_Te_joined_149 rfl rfl ?_ <;> try (refine T_iload_n (pc1 := 151) (pc := 150) k_Te_joined_150 rfl rfl ?_ <;> try ((first | with_reducible refine T_isubN (pc1 := 152) (pc := 151) k_Te_joined_151 (by decide) (by omega) ?_ | refine T_isub (pc1 := 152) (pc := 151) k_Te_joined_151 rfl ?_) <;> try (refine T_retI (pc := 152) k_Te_joined_152 rfl (by first | rfl | decide | assumption) ?_))))
      | (refine T_iload_n (pc1 := 154) (pc := 153) k_Te_joined_153 rfl rfl ?_ <;> try (refine T_iload_n (pc1 := 155) (pc := 154) k_Te_joined_154 rfl rfl ?_ <;> try ((first | with_reducible refine T_imulN (pc1 := 156) (pc := 155) k_Te_joined_155 (by decide) ?_ | refine T_imul (pc1 := 156) (pc := 155) k_Te_joined_155 rfl ?_) <;> try (refine T_retI (pc := 156) k_Te_joined_156 rfl (by first | rfl | decide | assumption) ?_))))
      | (refine T_iload_n (pc1 := 158) (pc := 157) k_Te_joined_157 rfl rfl ?_ <;> try ((first | (with_reducible refine T_if_neN (tgt := 165) (pc1 := 161) (pc := 158) k_Te_joined_158 (by decide) (by decide) (by omega) (fun hc => ?_) (fun hc => ?_) <;> first | (exfalso; omega) | skip) | refine T_if_ne_t (tgt := 165) (pc := 158) k_Te_joined_158 rfl (by decide) ?_ | refine T_if_ne_f (tgt := 165) (pc1 := 161) (pc := 158) k_Te_joined_158 rfl rfl (by decide) ?_ | refine T_if_ne (tgt := 165) (pc1 := 161) (pc := 158) k_Te_joined_158 rfl rfl (fun hc => ?_) (fun hc => ?_))))
      | (refine T_iconst (v := (nI 0)) (pc1 := 162) (pc := 161) k_Te_joined_161 rfl (by decide) ?_ <;> try (refine T_goto (tgt := 168) (pc := 162) k_Te_joined_162 rfl ?_))
      | (refine T_iload_n (pc1 := 166) (pc := 165) k_Te_joined_165 rfl rfl ?_ <;> try (refine T_iload_n (pc1 := 167) (pc := 166) k_Te_joined_166 rfl rfl ?_ <;> try (refine T_idiv (pc1 := 168) (pc := 167) k_Te_joined_167 rfl (by first | assumption | decide) ?_)))
      | (refine T_retI (pc := 168) k_Te_joined_168 rfl (by first | rfl | decide | assumption) ?_)
      | (refine T_iconst (v := (nI 0)) (pc1 := 170) (pc := 169) k_Te_joined_169 rfl (by decide) ?_ <;> try (refine T_retI (pc := 170) k_Te_joined_170 rfl (by first | rfl | decide | assumption) ?_))
      | (with_reducible refine swN_Te_joined_1 (by omega) (fun hc => ?_) (fun hc => ?_) (fun hc => ?_) (fun hc => ?_) (fun hc => ?_) (fun hc => ?_) (fun hc => ?_) (fun hc => ?_) (fun hc => ?_) (fun hc => ?_) <;> first | (exfalso; omega) | skip)
      | refine sw_Te_joined_1 (fun hc => ?_) (fun hc => ?_) (fun hc => ?_) (fun hc => ?_) (fun hc => ?_) (fun hc => ?_) (fun hc => ?_) (fun hc => ?_) (fun hc => ?_) (fun hc => ?_)
      | (with_reducible refine T_if_neN (tgt := 92) (pc1 := 88) (pc := 85) k_Te_joined_85 (by decide) (by decide) (by omega) (fun hc => ?_) (fun hc => ?_) <;> first | (exfalso; omega) | skip)
      | refine T_if_ne_t (tgt := 92) (pc := 85) k_Te_joined_85 rfl (by decide) ?_
      | refine T_if_ne_f (tgt := 92) (pc1 := 88) (pc := 85) k_Te_joined_85 rfl rfl (by decide) ?_
      | refine T_if_ne (tgt := 92) (pc1 := 88) (pc := 85) k_Te_joined_85 rfl rfl (fun hc => ?_) (fun hc => ?_)
      | (with_reducible refine T_if_eqN (tgt := 96) (pc1 := 92) (pc := 89) k_Te_joined_89 (by decide) (by decide) (by omega) (fun hc => ?_) (fun hc => ?_) <;> first | (exfalso; omega) | skip)
      | refine T_if_eq_t (tgt := 96) (pc := 89) k_Te_joined_89 rfl (by decide) ?_
      | refine T_if_eq_f (tgt := 96) (pc1 := 92) (pc := 89) k_Te_joined_89 rfl rfl (by decide) ?_
      | refine T_if_eq (tgt := 96) (pc1 := 92) (pc := 89) k_Te_joined_89 rfl rfl (fun hc => ?_) (fun hc => ?_)
      | refine T_goto (tgt := 97) (pc := 93) k_Te_joined_93 rfl ?_
      | (with_reducible refine T_if_eqN (tgt := 110) (pc1 := 102) (pc := 99) k_Te_joined_99 (by decide) (by decide) (by omega) (fun hc => ?_) (fun hc => ?_) <;> first | (exfalso; omega) | skip)
      | refine T_if_eq_t (tgt := 110) (pc := 99) k_Te_joined_99 rfl (by decide) ?_
      | refine T_if_eq_f (tgt := 110) (pc1 := 102) (pc := 99) k_Te_joined_99 rfl rfl (by decide) ?_
      | refine T_if_eq (tgt := 110) (pc1 := 102) (pc := 99) k_Te_joined_99 rfl rfl (fun hc => ?_) (fun hc => ?_)
      | (with_reducible refine T_if_eqN (tgt := 110) (pc1 := 106) (pc := 103) k_Te_joined_103 (by decide) (by decide) (by omega) (fun hc => ?_) (fun hc => ?_) <;> first | (exfalso; omega) | skip)
      | refine T_if_eq_t (tgt := 110) (pc := 103) k_Te_joined_103 rfl (by decide) ?_
      | refine T_if_eq_f (tgt := 110) (pc1 := 106) (pc := 103) k_Te_joined_103 rfl rfl (by decide) ?_
      | refine T_if_eq (tgt := 110) (pc1 := 106) (pc := 103) k_Te_joined_103 rfl rfl (fun hc => ?_) (fun hc => ?_)
      | refine T_goto (tgt := 111) (pc := 107) k_Te_joined_107 rfl ?_
      | refine T_iload_n (pc1 := 114) (pc := 113) k_Te_joined_113 rfl rfl ?_
      | (with_reducible refine T_icmp_geN (tgt := 121) (pc1 := 117) (pc := 114) k_Te_joined_114 (by decide) (by decide) (by omega) (by omega) (fun hc => ?_) (fun hc => ?_) <;> first | (exfalso; omega) | skip)
      | refine T_icmp_ge_t (tgt := 121) (pc := 114) k_Te_joined_114 rfl (by decide) ?_
      | refine T_icmp_ge_f (tgt := 121) (pc1 := 117) (pc := 114) k_Te_joined_114 rfl rfl (by decide) ?_
      | refine T_icmp_ge (tgt := 121) (pc1 := 117) (pc := 114) k_Te_joined_114 rfl rfl (fun hc => ?_) (fun hc => ?_)
      | refine T_goto (tgt := 122) (pc := 118) k_Te_joined_118 rfl ?_
      | refine T_iload_n (pc1 := 125) (pc := 124) k_Te_joined_124 rfl rfl ?_
      | refine T_goto (tgt := 133) (pc := 129) k_Te_joined_129 rfl ?_
      | refine T_iload_n (pc1 := 136) (pc := 135) k_Te_joined_135 rfl rfl ?_
      | (with_reducible refine T_icmp_leN (tgt := 143) (pc1 := 139) (pc := 136) k_Te_joined_136 (by decide) (by decide) (by omega) (by omega) (fun hc => ?_) (fun hc => ?_) <;> first | (exfalso; omega) | skip)
      | refine T_icmp_le_t (tgt := 143) (pc := 136) k_Te_joined_136 rfl (by decide) ?_
      | refine T_icmp_le_f (tgt := 143) (pc1 := 139) (pc := 136) k_Te_joined_136 rfl rfl (by decide) ?_
      | refine T_icmp_le (tgt := 143) (pc1 := 139) (pc := 136) k_Te_joined_136 rfl rfl (fun hc => ?_) (fun hc => ?_)
      | refine T_goto (tgt := 144) (pc := 140) k_Te_joined_140 rfl ?_
      | refine T_iload_n (pc1 := 147) (pc := 146) k_Te_joined_146 rfl rfl ?_
      | with_reducible refine T_iaddN (pc1 := 148) (pc := 147) k_Te_joined_147 (by decide) ?_
      | refine T_iadd (pc1 := 148) (pc := 147) k_Te_joined_147 rfl ?_
      | refine T_retI (pc := 148) k_Te_joined_148 rfl (by first | rfl | decide | assumption) ?_
      | refine T_iload_n (pc1 := 151) (pc := 150) k_Te_joined_150 rfl rfl ?_
      | with_reducible refine T_isubN (pc1 := 152) (pc := 151) k_Te_joined_151 (by decide) (by omega) ?_
      | refine T_isub (pc1 := 152) (pc := 151) k_Te_joined_151 rfl ?_
      | refine T_retI (pc := 152) k_Te_joined_152 rfl (by first | rfl | decide | assumption) ?_
      | refine T_iload_n (pc1 := 155) (pc := 154) k_Te_joined_154 rfl rfl ?_
      | with_reducible refine T_imulN (pc1 := 156) (pc := 155) k_Te_joined_155 (by decide) ?_
      | refine T_imul (pc1 := 156) (pc := 155) k_Te_joined_155 rfl ?_
      | refine T_retI (pc := 156) k_Te_joined_156 rfl (by first | rfl | decide | assumption) ?_
      | (with_reducible refine T_if_neN (tgt := 165) (pc1 := 161) (pc := 158) k_Te_joined_158 (by decide) (by decide) (by omega) (fun hc => ?_) (fun hc => ?_) <;> first | (exfalso; omega) | skip)
      | refine T_if_ne_t (tgt := 165) (pc := 158) k_Te_joined_158 rfl (by decide) ?_
      | refine T_if_ne_f (tgt := 165) (pc1 := 161) (pc := 158) k_Te_joined_158 rfl rfl (by decide) ?_
      | refine T_if_ne (tgt := 165) (pc1 := 161) (pc := 158) k_Te_joined_158 rfl rfl (fun hc => ?_) (fun hc => ?_)
      | refine T_goto (tgt := 168) (pc := 162) k_Te_joined_162 rfl ?_
      | refine T_iload_n (pc1 := 167) (pc := 166) k_Te_joined_166 rfl rfl ?_
      | refine T_idiv (pc1 := 168) (pc := 167) k_Te_joined_167 rfl (by first | assumption | decide) ?_
      | refine T_retI (pc := 170) k_Te_joined_170 rfl (by first | rfl | decide | assumption) ?_)
    · exact kk _ (by rw [if_neg (by assumption)])
    · exact kk _ (by rw [if_pos (Decidable.not_not.mp (by assumption))])
  rw [if_neg c3]
  rw [if_neg c3] at kk
  by_cases c4 : op = -24
  · rw [if_pos c4]
    rw [if_pos c4] at kk
    repeat' (first
      | (refine T_iload_n (pc1 := 1) (pc := 0) k_Te_joined_0 rfl rfl ?_ <;> try ((first | (with_reducible refine swN_Te_joined_1 (by omega) (fun hc => ?_) (fun hc => ?_) (fun hc => ?_) (fun hc => ?_) (fun hc => ?_) (fun hc => ?_) (fun hc => ?_) (fun hc => ?_) (fun hc => ?_) (fun hc => ?_) <;> first | (exfalso; omega) | skip) | refine sw_Te_joined_1 (fun hc => ?_) (fun hc => ?_) (fun hc => ?_) (fun hc => ?_) (fun hc => ?_) (fun hc => ?_) (fun hc => ?_) (fun hc => ?_) (fun hc => ?_) (fun hc => ?_))))
      | (refine T_iload_n (pc1 := 85) (pc := 84) k_Te_joined_84 rfl rfl ?_ <;> try ((first | (with_reducible refine T_if_neN (tgt := 92) (pc1 := 88) (pc := 85) k_Te_joined_85 (by decide) (by decide) (by omega) (fun hc => ?_) (fun hc => ?_) <;> first | (exfalso; omega) | skip) | refine T_if_ne_t (tgt := 92) (pc := 85) k_Te_joined_85 rfl (by decide) ?_ | refine T_if_ne_f (tgt := 92) (pc1 := 88) (pc := 85) k_Te_joined_85 rfl rfl (by decide) ?_ | refine T_if_ne (tgt := 92) (pc1 := 88) (pc := 85) k_Te_joined_85 rfl rfl (fun hc => ?_) (fun hc => ?_))))
      | (refine T_iload_n (pc1 := 89) (pc := 88) k_Te_joined_88 rfl rfl ?_ <;> try ((first | (with_reducible refine T_if_eqN (tgt := 96) (pc1 := 92) (pc := 89) k_Te_joined_89 (by decide) (by decide) (by omega) (fun hc => ?_) (fun hc => ?_) <;> first | (exfalso; omega) | skip) | refine T_if_eq_t (tgt := 96) (pc := 89) k_Te_joined_89 rfl (by decide) ?_ | refine T_if_eq_f (tgt := 96) (pc1 := 92) (pc := 89) k_Te_joined_89 rfl rfl (by decide) ?_ | refine T_if_eq (tgt := 96) (pc1 := 92) (pc := 89) k_Te_joined_89 rfl rfl (fun hc => ?_) (fun hc => ?_))))
      | (refine T_iconst (v := (nI 1)) (pc1 := 93) (pc := 92) k_Te_joined_92 rfl (by decide) ?_ <;> try (refine T_goto (tgt := 97) (pc := 93) k_Te_joined_93 rfl ?_))
      | (refine T_iconst (v := (nI 0)) (pc1 := 97) (pc := 96) k_Te_joined_96 rfl (by decide) ?_)
      | (refine T_retI (pc := 97) k_Te_joined_97 rfl (by first | rfl | decide | assumption) ?_)
      | (refine T_iload_n (pc1 := 99) (pc := 98) k_Te_joined_98 rfl rfl ?_ <;> try ((first | (with_reducible refine T_if_eqN (tgt := 110) (pc1 := 102) (pc := 99) k_Te_joined_99 (by decide) (by decide) (by omega) (fun hc => ?_) (fun hc => ?_) <;> first | (exfalso; omega) | skip) | refine T_if_eq_t (tgt := 110) (pc := 99) k_Te_joined_99 rfl (by decide) ?_ | refine T_if_eq_f (tgt := 110) (pc1 := 102) (pc := 99) k_Te_joined_99 rfl rfl (by decide) ?_ | refine T_if_eq (tgt := 110) (pc1 := 102) (pc := 99) k_Te_joined_99 rfl rfl (fun hc => ?_) (fun hc => ?_))))
      | (refine T_iload_n (pc1 := 103) (pc := 102) k_Te_joined_102 rfl rfl ?_ <;> try ((first | (with_reducible refine T_if_eqN (tgt := 110) (pc1 := 106) (pc := 103) k_Te_joined_103 (by decide) (by decide) (by omega) (fun hc => ?_) (fun hc => ?_) <;> first | (exfalso; omega) | skip) | refine T_if_eq_t (tgt := 110) (pc := 103) k_Te_joined_103 rfl (by decide) ?_ | refine T_if_eq_f (tgt := 110) (pc1 := 106) (pc := 103) k_Te_joined_103 rfl rfl (by decide) ?_ | refine T_if_eq (tgt := 110) (pc1 := 106) (pc := 103) k_Te_joined_103 rfl rfl (fun hc => ?_) (fun hc => ?_))))
      | (refine T_iconst (v := (nI 1)) (pc1 := 107) (pc := 106) k_Te_joined_106 rfl (by decide) ?_ <;> try (refine T_goto (tgt := 111) (pc := 107) k_Te_joined_107 rfl ?_))
      | (refine T_iconst (v := (nI 0)) (pc1 := 111) (pc := 110) k_Te_joined_110 rfl (by decide) ?_)
      | (refine T_retI (pc := 111) k_Te_joined_111 rfl (by first | rfl | decide | assumption) ?_)
      | (refine T_iload_n (pc1 := 113) (pc := 112) k_Te_joined_112 rfl rfl ?_ <;> try (refine T_iload_n (pc1 := 114) (pc := 113) k_Te_joined_113 rfl rfl ?_ <;> try ((first | (with_reducible refine T_icmp_geN (tgt := 121) (pc1 := 117) (pc := 114) k_Te_joined_114 (by decide) (by decide) (by omega) (by omega) (fun hc => ?_) (fun hc => ?_) <;> first | (exfalso; omega) | skip) | refine T_icmp_ge_t (tgt := 121) (pc := 114) k_Te_joined_114 rfl (by decide) ?_ | refine T_icmp_ge_f (tgt := 121) (pc1 := 117) (pc := 114) k_Te_joined_114 rfl rfl (by decide) ?_ | refine T_icmp_ge (tgt := 121) (pc1 := 117) (pc := 114) k_Te_joined_114 rfl rfl (fun hc => ?_) (fun hc => ?_)))))
      | (refine T_iconst (v := (nI 1)) (pc1 := 118) (pc := 117) k_Te_joined_117 rfl (by decide) ?_ <;> try (refine T_goto (tgt := 122) (pc := 118) k_Te_joined_118 rfl ?_))
      | (refine T_iconst (v := (nI 0)) (pc1 := 122) (pc := 121) k_Te_joined_121 rfl (by decide) ?_)
      | (refine T_retI (pc := 122) k_Te_joined_122 rfl (by first | rfl | decide | assumption) ?_)
      | (refine T_iload_n (pc1 := 124) (pc := 123) k_Te_joined_123 rfl rfl ?_ <;> try (refine T_iload_n (pc1 := 125) (pc := 124) k_Te_joined_124 rfl rfl ?_))
      | ((first | (with_reducible refine T_icmp_neN (tgt := 132) (pc1 := 128) (pc := 125) k_Te_joined_125 (by decide) (by decide) (by omega) (by omega) (fun hc => ?_) (fun hc => ?_) <;> first | (exfalso; omega) | skip) | refine T_icmp_ne_t (tgt := 132) (pc := 125) k_Te_joined_125 rfl (by decide) ?_ | refine T_icmp_ne_f (tgt := 132) (pc1 := 128) (pc := 125) k_Te_joined_125 rfl rfl (by decide) ?_ | refine T_icmp_ne (tgt := 132) (pc1 := 128) (pc := 125) k_Te_joined_125 rfl rfl (fun hc => ?_) (fun hc => ?_)))
      | (refine T_iconst (v := (nI 1)) (pc1 := 129) (pc := 128) k_Te_joined_128 rfl (by decide) ?_ <;> try (refine T_goto (tgt := 133) (pc := 129) k_Te_joined_129 rfl ?_))
      | (refine T_iconst (v := (nI 0)) (pc1 := 133) (pc := 132) k_Te_joined_132 rfl (by decide) ?_)
      | (refine T_retI (pc := 133) k_Te_joined_133 rfl (by first | rfl | decide | assumption) ?_)
      | (refine T_iload_n (pc1 := 135) (pc := 134) k_Te_joined_134 rfl rfl ?_ <;> try (refine T_iload_n (pc1 := 136) (pc := 135) k_Te_joined_135 rfl rfl ?_ <;> try ((first | (with_reducible refine T_icmp_leN (tgt := 143) (pc1 := 139) (pc := 136) k_Te_joined_136 (by decide) (by decide) (by omega) (by omega) (fun hc => ?_) (fun hc => ?_) <;> first | (exfalso; omega) | skip) | refine T_icmp_le_t (tgt := 143) (pc := 136) k_Te_joined_136 rfl (by decide) ?_ | refine T_icmp_le_f (tgt := 143) (pc1 := 139) (pc := 136) k_Te_joined_136 rfl rfl (by decide) ?_ | refine T_icmp_le (tgt := 143) (pc1 := 139) (pc := 136) k_Te_joined_136 rfl rfl (fun hc => ?_) (fun hc => ?_)))))
      | (refine T_iconst (v := (nI 1)) (pc1 := 140) (pc := 139) k_Te_joined_139 rfl (by decide) ?_ <;> try (refine T_goto (tgt := 144) (pc := 140) k_Te_joined_140 rfl ?_))
      | (refine T_iconst (v := (nI 0)) (pc1 := 144) (pc := 143) k_Te_joined_143 rfl (by decide) ?_)
      | (refine T_retI (pc := 144) k_Te_joined_144 rfl (by first | rfl | decide | assumption) ?_)
      | (refine T_iload_n (pc1 := 146) (pc := 145) k_Te_joined_145 rfl rfl ?_ <;> try (refine T_iload_n (pc1 := 147) (pc := 146) k_Te_joined_146 rfl rfl ?_ <;> try ((first | with_reducible refine T_iaddN (pc1 := 148) (pc := 147) k_Te_joined_147 (by decide) ?_ | refine T_iadd (pc1 := 148) (pc := 147) k_Te_joined_147 rfl ?_) <;> try (refine T_retI (pc := 148) k_Te_joined_148 rfl (by first | rfl | decide | assumption) ?_))))
      | (refine T_iload_n (pc1 := 150) (pc := 149) k_Te_joined_149 rfl rfl ?_ <;> try (refine T_iload_n (pc1 := 151) (pc := 150) k_Te_joined_150 rfl rfl ?_ <;> try ((first | with_reducible refine T_isubN (pc1 := 152) (pc := 151) k_Te_joined_151 (by decide) (by omega) ?_ | refine T_isub (pc1 := 152) (pc := 151) k_Te_joined_151 rfl ?_) <;> try (refine T_retI (pc := 152) k_Te_joined_152 rfl (by first | rfl | decide | assumption) ?_))))
      | (refine T_iload_n (pc1 := 154) (pc := 153) k_Te_joined_153 rfl rfl ?_ <;> try (refine T_iload_n (pc1 := 155) (pc := 154) k_Te_joined_154 rfl rfl ?_ <;> try ((first | with_reducible refine T_imulN (pc1 := 156) (pc := 155) k_Te_joined_155 (by decide) ?_ | refine T_imul (pc1 := 156) (pc := 155) k_Te_joined_155 rfl ?_) <;> try (refine T_retI (pc := 156) k_Te_joined_156 rfl (by first | rfl | decide | assumption) ?_))))
      | (refine T_iload_n (pc1 := 158) (pc := 157) k_Te_joined_157 rfl rfl ?_ <;> try ((first | (with_reducible refine T_if_neN (tgt := 165) (pc1 := 161) (pc := 158) k_Te_joined_158 (by decide) (by decide) (by omega) (fun hc => ?_) (fun hc => ?_) <;> first | (exfalso; omega) | skip) | refine T_if_ne_t (tgt := 165) (pc := 158) k_Te_joined_158 rfl (by decide) ?_ | refine T_if_ne_f (tgt := 165) (pc1 := 161) (pc := 158) k_Te_joined_158 rfl rfl (by decide) ?_ | refine T_if_ne (tgt := 165) (pc1 := 161) (pc := 158) k_Te_joined_158 rfl rfl (fun hc => ?_) (fun hc => ?_))))
      | (refine T_iconst (v := (nI 0)) (pc1 := 162) (pc := 161) k_Te_joined_161 rfl (by decide) ?_ <;> try (refine T_goto (tgt := 168) (pc := 162) k_Te_joined_162 rfl ?_))
      | (refine T_iload_n (pc1 := 166) (pc := 165) k_Te_joined_165 rfl rfl ?_ <;> try (refine T_iload_n (pc1 := 167) (pc := 166) k_Te_joined_166 rfl rfl ?_ <;> try (refine T_idiv (pc1 := 168) (pc := 167) k_Te_joined_167 rfl (by first | assumption | decide) ?_)))
      | (refine T_retI (pc := 168) k_Te_joined_168 rfl (by first | rfl | decide | assumption) ?_)
      | (refine T_iconst (v := (nI 0)) (pc1 := 170) (pc := 169) k_Te_joined_169 rfl (by decide) ?_ <;> try (refine T_retI (pc := 170) k_Te_joined_170 rfl (by first | rfl | decide | assumption) ?_))
      | (with_reducible refine swN_Te_joined_1 (by omega) (fun hc => ?_) (fun hc => ?_) (fun hc => ?_) (fun hc => ?_) (fun hc => ?_) (fun hc => ?_) (fun hc => ?_) (fun hc => ?_) (fun hc => ?_) (fun hc => ?_) <;> first | (exfalso; omega) | skip)
      | refine sw_Te_joined_1 (fun hc => ?_) (fun hc => ?_) (fun hc => ?_) (fun hc => ?_) (fun hc => ?_) (fun hc => ?_) (fun hc => ?_) (fun hc => ?_) (fun hc => ?_) (fun hc => ?_)
      | (with_reducible refine T_if_neN (tgt := 92) (pc1 := 88) (pc := 85) k_Te_joined_85 (by decide) (by decide) (by omega) (fun hc => ?_) (fun hc => ?_) <;> first | (exfalso; omega) | skip)
      | refine T_if_ne_t (tgt := 92) (pc := 85) k_Te_joined_85 rfl (by decide) ?_
      | refine T_if_ne_f (tgt := 92) (pc1 := 88) (pc := 85) k_Te_joined_85 rfl rfl (by decide) ?_
      | refine T_if_ne (tgt := 92) (pc1 := 88) (pc := 85) k_Te_joined_85 rfl rfl (fun hc => ?_) (fun hc => ?_)
      | (with_reducible refine T_if_eqN (tgt := 96) (pc1 := 92) (pc := 89) k_Te_joined_89 (by decide) (by decide) (by omega) (fun hc => ?_) (fun hc => ?_) <;> first | (exfalso; omega) | skip)
      | refine T_if_eq_t (tgt := 96) (pc := 89) k_Te_joined_89 rfl (by decide) ?_
      | refine T_if_eq_f (tgt := 96) (pc1 := 92) (pc := 89) k_Te_joined_89 rfl rfl (by decide) ?_
      | refine T_if_eq (tgt := 96) (pc1 := 92) (pc := 89) k_Te_joined_89 rfl rfl (fun hc => ?_) (fun hc => ?_)
      | refine T_goto (tgt := 97) (pc := 93) k_Te_joined_93 rfl ?_
      | (with_reducible refine T_if_eqN (tgt := 110) (pc1 := 102) (pc := 99) k_Te_joined_99 (by decide) (by decide) (by omega) (fun hc => ?_) (fun hc => ?_) <;> first | (exfalso; omega) | skip)
      | refine T_if_eq_t (tgt := 110) (pc := 99) k_Te_joined_99 rfl (by decide) ?_
      | refine T_if_eq_f (tgt := 110) (pc1 := 102) (pc := 99) k_Te_joined_99 rfl rfl (by decide) ?_
      | refine T_if_eq (tgt := 110) (pc1 := 102) (pc := 99) k_Te_joined_99 rfl rfl (fun hc => ?_) (fun hc => ?_)
      | (with_reducible refine T_if_eqN (tgt := 110) (pc1 := 106) (pc := 103) k_Te_joined_103 (by decide) (by decide) (by omega) (fun hc => ?_) (fun hc => ?_) <;> first | (exfalso; omega) | skip)
      | refine T_if_eq_t (tgt := 110) (pc := 103) k_Te_joined_103 rfl (by decide) ?_
      | refine T_if_eq_f (tgt := 110) (pc1 := 106) (pc := 103) k_Te_joined_103 rfl rfl (by decide) ?_
      | refine T_if_eq (tgt := 110) (pc1 := 106) (pc := 103) k_Te_joined_103 rfl rfl (fun hc => ?_) (fun hc => ?_)
      | refine T_goto (tgt := 111) (pc := 107) k_Te_joined_107 rfl ?_
      | refine T_iload_n (pc1 := 114) (pc := 113) k_Te_joined_113 rfl rfl ?_
      | (with_reducible refine T_icmp_geN (tgt := 121) (pc1 := 117) (pc := 114) k_Te_joined_114 (by decide) (by decide) (by omega) (by omega) (fun hc => ?_) (fun hc => ?_) <;> first | (exfalso; omega) | skip)
      | refine T_icmp_ge_t (tgt := 121) (pc := 114) k_Te_joined_114 rfl (by decide) ?_
      | refine T_icmp_ge_f (tgt := 121) (pc1 := 117) (pc := 114) k_Te_joined_114 rfl rfl (by decide) ?_
      | refine T_icmp_ge (tgt := 121) (pc1 := 117) (pc := 114) k_Te_joined_114 rfl rfl (fun hc => ?_) (fun hc => ?_)
      | refine T_goto (tgt := 122) (pc := 118) k_Te_joined_118 rfl ?_
      | refine T_iload_n (pc1 := 125) (pc := 124) k_Te_joined_124 rfl rfl ?_
      | refine T_goto (tgt := 133) (pc := 129) k_Te_joined_129 rfl ?_
      | refine T_iload_n (pc1 := 136) (pc := 135) k_Te_joined_135 rfl rfl ?_
      | (with_reducible refine T_icmp_leN (tgt := 143) (pc1 := 139) (pc := 136) k_Te_joined_136 (by decide) (by decide) (by omega) (by omega) (fun hc => ?_) (fun hc => ?_) <;> first | (exfalso; omega) | skip)
      | refine T_icmp_le_t (tgt := 143) (pc := 136) k_Te_joined_136 rfl (by decide) ?_
      | refine T_icmp_le_f (tgt := 143) (pc1 := 139) (pc := 136) k_Te_joined_136 rfl rfl (by decide) ?_
      | refine T_icmp_le (tgt := 143) (pc1 := 139) (pc := 136) k_Te_joined_136 rfl rfl (fun hc => ?_) (fun hc => ?_)
      | refine T_goto (tgt := 144) (pc := 140) k_Te_joined_140 rfl ?_
      | refine T_iload_n (pc1 := 147) (pc := 146) k_Te_joined_146 rfl rfl ?_
      | with_reducible refine T_iaddN (pc1 := 148) (pc := 147) k_Te_joined_147 (by decide) ?_
      | refine T_iadd (pc1 := 148) (pc := 147) k_Te_joined_147 rfl ?_
      | refine T_retI (pc := 148) k_Te_joined_148 rfl (by first | rfl | decide | assumption) ?_
      | refine T_iload_n (pc1 := 151) (pc := 150) k_Te_joined_150 rfl rfl ?_
      | with_reducible refine T_isubN (pc1 := 152) (pc := 151) k_Te_joined_151 (by decide) (by omega) ?_
      | refine T_isub (pc1 := 152) (pc := 151) k_Te_joined_151 rfl ?_
      | refine T_retI (pc := 152) k_Te_joined_152 rfl (by first | rfl | decide | assumption) ?_
      | refine T_iload_n (pc1 := 155) (pc := 154) k_Te_joined_154 rfl rfl ?_
      | with_reducible refine T_imulN (pc1 := 156) (pc := 155) k_Te_joined_155 (by decide) ?_
      | refine T_imul (pc1 := 156) (pc := 155) k_Te_joined_155 rfl ?_
      | refine T_retI (pc := 156) k_Te_joined_156 rfl (by first | rfl | decide | assumption) ?_
      | (with_reducible refine T_if_neN (tgt := 165) (pc1 := 161) (pc := 158) k_Te_joined_158 (by decide) (by decide) (by omega) (fun hc => ?_) (fun hc => ?_) <;> first | (exfalso; omega) | skip)
      | refine T_if_ne_t (tgt := 165) (pc := 158) k_Te_joined_158 rfl (by decide) ?_
      | refine T_if_ne_f (tgt := 165) (pc1 := 161) (pc := 158) k_Te_joined_158 rfl rfl (by decide) ?_
      | refine T_if_ne (tgt := 165) (pc1 := 161) (pc := 158) k_Te_joined_158 rfl rfl (fun hc => ?_) (fun hc => ?_)
      | refine T_goto (tgt := 168) (pc := 162) k_Te_joined_162 rfl ?_
      | refine T_iload_n (pc1 := 167) (pc := 166) k_Te_joined_166 rfl rfl ?_
      | refine T_idiv (pc1 := 168) (pc := 167) k_Te_joined_167 rfl (by first | assumption | decide) ?_
      | refine T_retI (pc := 170) k_Te_joined_170 rfl (by first | rfl | decide | assumption) ?_)
    · exact kk _ (by rw [if_neg (Int32.not_lt.mpr (by assumption))])
    · exact kk _ (by rw [if_pos (Int32.not_le.mp (by assumption))])
  rw [if_neg c4]
  rw [if_neg c4] at kk
  by_cases c5 : op = -25
  · rw [if_pos c5]
    rw [if_pos c5] at kk
    repeat' (first
      | (refine T_iload_n (pc1 := 1) (pc := 0) k_Te_joined_0 rfl rfl ?_ <;> try ((first | (with_reducible refine swN_Te_joined_1 (by omega) (fun hc => ?_) (fun hc => ?_) (fun hc => ?_) (fun hc => ?_) (fun hc => ?_) (fun hc => ?_) (fun hc => ?_) (fun hc => ?_) (fun hc => ?_) (fun hc => ?_) <;> first | (exfalso; omega) | skip) | refine sw_Te_joined_1 (fun hc => ?_) (fun hc => ?_) (fun hc => ?_) (fun hc => ?_) (fun hc => ?_) (fun hc => ?_) (fun hc => ?_) (fun hc => ?_) (fun hc => ?_) (fun hc => ?_))))
      | (refine T_iload_n (pc1 := 85) (pc := 84) k_Te_joined_84 rfl rfl ?_ <;> try ((first | (with_reducible refine T_if_neN (tgt := 92) (pc1 := 88) (pc := 85) k_Te_joined_85 (by decide) (by decide) (by omega) (fun hc => ?_) (fun hc => ?_) <;> first | (exfalso; omega) | skip) | refine T_if_ne_t (tgt := 92) (pc := 85) k_Te_joined_85 rfl (by decide) ?_ | refine T_if_ne_f (tgt := 92) (pc1 := 88) (pc := 85) k_Te_joined_85 rfl rfl (by decide) ?_ | refine T_if_ne (tgt := 92) (pc1 := 88) (pc := 85) k_Te_joined_85 rfl rfl (fun hc => ?_) (fun hc => ?_))))
      | (refine T_iload_n (pc1 := 89) (pc := 88) k_Te_joined_88 rfl rfl ?_ <;> try ((first | (with_reducible refine T_if_eqN (tgt := 96) (pc1 := 92) (pc := 89) k_Te_joined_89 (by decide) (by decide) (by omega) (fun hc => ?_) (fun hc => ?_) <;> first | (exfalso; omega) | skip) | refine T_if_eq_t (tgt := 96) (pc := 89) k_Te_joined_89 rfl (by decide) ?_ | refine T_if_eq_f (tgt := 96) (pc1 := 92) (pc := 89) k_Te_joined_89 rfl rfl (by decide) ?_ | refine T_if_eq (tgt := 96) (pc1 := 92) (pc := 89) k_Te_joined_89 rfl rfl (fun hc => ?_) (fun hc => ?_))))
      | (refine T_iconst (v := (nI 1)) (pc1 := 93) (pc := 92) k_Te_joined_92 rfl (by decide) ?_ <;> try (refine T_goto (tgt := 97) (pc := 93) k_Te_joined_93 rfl ?_))
      | (refine T_iconst (v := (nI 0)) (pc1 := 97) (pc := 96) k_Te_joined_96 rfl (by decide) ?_)
      | (refine T_retI (pc := 97) k_Te_joined_97 rfl (by first | rfl | decide | assumption) ?_)
      | (refine T_iload_n (pc1 := 99) (pc := 98) k_Te_joined_98 rfl rfl ?_ <;> try ((first | (with_reducible refine T_if_eqN (tgt := 110) (pc1 := 102) (pc := 99) k_Te_joined_99 (by decide) (by decide) (by omega) (fun hc => ?_) (fun hc => ?_) <;> first | (exfalso; omega) | skip) | refine T_if_eq_t (tgt := 110) (pc := 99) k_Te_joined_99 rfl (by decide) ?_ | refine T_if_eq_f (tgt := 110) (pc1 := 102) (pc := 99) k_Te_joined_99 rfl rfl (by decide) ?_ | refine T_if_eq (tgt := 110) (pc1 := 102) (pc := 99) k_Te_joined_99 rfl rfl (fun hc => ?_) (fun hc => ?_))))
      | (refine T_iload_n (pc1 := 103) (pc := 102) k_Te_joined_102 rfl rfl ?_ <;> try ((first | (with_reducible refine T_if_eqN (tgt := 110) (pc1 := 106) (pc := 103) k_Te_joined_103 (by decide) (by decide) (by omega) (fun hc => ?_) (fun hc => ?_) <;> first | (exfalso; omega) | skip) | refine T_if_eq_t (tgt := 110) (pc := 103) k_Te_joined_103 rfl (by decide) ?_ | refine T_if_eq_f (tgt := 110) (pc1 := 106) (pc := 103) k_Te_joined_103 rfl rfl (by decide) ?_ | refine T_if_eq (tgt := 110) (pc1 := 106) (pc := 103) k_Te_joined_103 rfl rfl (fun hc => ?_) (fun hc => ?_))))
      | (refine T_iconst (v := (nI 1)) (pc1 := 107) (pc := 106) k_Te_joined_106 rfl (by decide) ?_ <;> try (refine T_goto (tgt := 111) (pc := 107) k_Te_joined_107 rfl ?_))
      | (refine T_iconst (v := (nI 0)) (pc1 := 111) (pc := 110) k_Te_joined_110 rfl (by decide) ?_)
      | (refine T_retI (pc := 111) k_Te_joined_111 rfl (by first | rfl | decide | assumption) ?_)
      | (refine T_iload_n (pc1 := 113) (pc := 112) k_Te_joined_112 rfl rfl ?_ <;> try (refine T_iload_n (pc1 := 114) (pc := 113) k_Te_joined_113 rfl rfl ?_ <;> try ((first | (with_reducible refine T_icmp_geN (tgt := 121) (pc1 := 117) (pc := 114) k_Te_joined_114 (by decide) (by decide) (by omega) (by omega) (fun hc => ?_) (fun hc => ?_) <;> first | (exfalso; omega) | skip) | refine T_icmp_ge_t (tgt := 121) (pc := 114) k_Te_joined_114 rfl (by decide) ?_ | refine T_icmp_ge_f (tgt := 121) (pc1 := 117) (pc := 114) k_Te_joined_114 rfl rfl (by decide) ?_ | refine T_icmp_ge (tgt := 121) (pc1 := 117) (pc := 114) k_Te_joined_114 rfl rfl (fun hc => ?_) (fun hc => ?_)))))
      | (refine T_iconst (v := (nI 1)) (pc1 := 118) (pc := 117) k_Te_joined_117 rfl (by decide) ?_ <;> try (refine T_goto (tgt := 122) (pc := 118) k_Te_joined_118 rfl ?_))
      | (refine T_iconst (v := (nI 0)) (pc1 := 122) (pc := 121) k_Te_joined_121 rfl (by decide) ?_)
      | (refine T_retI (pc := 122) k_Te_joined_122 rfl (by first | rfl | decide | assumption) ?_)
      | (refine T_iload_n (pc1 := 124) (pc := 123) k_Te_joined_123 rfl rfl ?_ <;> try (refine T_iload_n (pc1 := 125) (pc := 124) k_Te_joined_124 rfl rfl ?_))
      | ((first | (with_reducible refine T_icmp_neN (tgt := 132) (pc1 := 128) (pc := 125) k_Te_joined_125 (by decide) (by decide) (by omega) (by omega) (fun hc => ?_) (fun hc => ?_) <;> first | (exfalso; omega) | skip) | refine T_icmp_ne_t (tgt := 132) (pc := 125) k_Te_joined_125 rfl (by decide) ?_ | refine T_icmp_ne_f (tgt := 132) (pc1 := 128) (pc := 125) k_Te_joined_125 rfl rfl (by decide) ?_ | refine T_icmp_ne (tgt := 132) (pc1 := 128) (pc := 125) k_Te_joined_125 rfl rfl (fun hc => ?_) (fun hc => ?_)))
      | (refine T_iconst (v := (nI 1)) (pc1 := 129) (pc := 128) k_Te_joined_128 rfl (by decide) ?_ <;> try (refine T_goto (tgt := 133) (pc := 129) k_Te_joined_129 rfl ?_))
      | (refine T_iconst (v := (nI 0)) (pc1 := 133) (pc := 132) k_Te_joined_132 rfl (by decide) ?_)
      | (refine T_retI (pc := 133) k_Te_joined_133 rfl (by first | rfl | decide | assumption) ?_)
      | (refine T_iload_n (pc1 := 135) (pc := 134) k_Te_joined_134 rfl rfl ?_ <;> try (refine T_iload_n (pc1 := 136) (pc := 135) k_Te_joined_135 rfl rfl ?_ <;> try ((first | (with_reducible refine T_icmp_leN (tgt := 143) (pc1 := 139) (pc := 136) k_Te_joined_136 (by decide) (by decide) (by omega) (by omega) (fun hc => ?_) (fun hc => ?_) <;> first | (exfalso; omega) | skip) | refine T_icmp_le_t (tgt := 143) (pc := 136) k_Te_joined_136 rfl (by decide) ?_ | refine T_icmp_le_f (tgt := 143) (pc1 := 139) (pc := 136) k_Te_joined_136 rfl rfl (by decide) ?_ | refine T_icmp_le (tgt := 143) (pc1 := 139) (pc := 136) k_Te_joined_136 rfl rfl (fun hc => ?_) (fun hc => ?_)))))
      | (refine T_iconst (v := (nI 1)) (pc1 := 140) (pc := 139) k_Te_joined_139 rfl (by decide) ?_ <;> try (refine T_goto (tgt := 144) (pc := 140) k_Te_joined_140 rfl ?_))
      | (refine T_iconst (v := (nI 0)) (pc1 := 144) (pc := 143) k_Te_joined_143 rfl (by decide) ?_)
      | (refine T_retI (pc := 144) k_Te_joined_144 rfl (by first | rfl | decide | assumption) ?_)
      | (refine T_iload_n (pc1 := 146) (pc := 145) k_Te_joined_145 rfl rfl ?_ <;> try (refine T_iload_n (pc1 := 147) (pc := 146) k_Te_joined_146 rfl rfl ?_ <;> try ((first | with_reducible refine T_iaddN (pc1 := 148) (pc := 147) k_Te_joined_147 (by decide) ?_ | refine T_iadd (pc1 := 148) (pc := 147) k_Te_joined_147 rfl ?_) <;> try (refine T_retI (pc := 148) k_Te_joined_148 rfl (by first | rfl | decide | assumption) ?_))))
      | (refine T_iload_n (pc1 := 150) (pc := 149) k_Te_joined_149 rfl rfl ?_ <;> try (refine T_iload_n (pc1 := 151) (pc := 150) k_Te_joined_150 rfl rfl ?_ <;> try ((first | with_reducible refine T_isubN (pc1 := 152) (pc := 151) k_Te_joined_151 (by decide) (by omega) ?_ | refine T_isub (pc1 := 152) (pc := 151) k_Te_joined_151 rfl ?_) <;> try (refine T_retI (pc := 152) k_Te_joined_152 rfl (by first | rfl | decide | assumption) ?_))))
      | (refine T_iload_n (pc1 := 154) (pc := 153) k_Te_joined_153 rfl rfl ?_ <;> try (refine T_iload_n (pc1 := 155) (pc := 154) k_Te_joined_154 rfl rfl ?_ <;> try ((first | with_reducible refine T_imulN (pc1 := 156) (pc := 155) k_Te_joined_155 (by decide) ?_ | refine T_imul (pc1 := 156) (pc := 155) k_Te_joined_155 rfl ?_) <;> try (refine T_retI (pc := 156) k_Te_joined_156 rfl (by first | rfl | decide | assumption) ?_))))
      | (refine T_iload_n (pc1 := 158) (pc := 157) k_Te_joined_157 rfl rfl ?_ <;> try ((first | (with_reducible refine T_if_neN (tgt := 165) (pc1 := 161) (pc := 158) k_Te_joined_158 (by decide) (by decide) (by omega) (fun hc => ?_) (fun hc => ?_) <;> first | (exfalso; omega) | skip) | refine T_if_ne_t (tgt := 165) (pc := 158) k_Te_joined_158 rfl (by decide) ?_ | refine T_if_ne_f (tgt := 165) (pc1 := 161) (pc := 158) k_Te_joined_158 rfl rfl (by decide) ?_ | refine T_if_ne (tgt := 165) (pc1 := 161) (pc := 158) k_Te_joined_158 rfl rfl (fun hc => ?_) (fun hc => ?_))))
      | (refine T_iconst (v := (nI 0)) (pc1 := 162) (pc := 161) k_Te_joined_161 rfl (by decide) ?_ <;> try (refine T_goto (tgt := 168) (pc := 162) k_Te_joined_162 rfl ?_))
      | (refine T_iload_n (pc1 := 166) (pc := 165) k_Te_joined_165 rfl rfl ?_ <;> try (refine T_iload_n (pc1 := 167) (pc := 166) k_Te_joined_166 rfl rfl ?_ <;> try (refine T_idiv (pc1 := 168) (pc := 167) k_Te_joined_167 rfl (by first | assumption | decide) ?_)))
      | (refine T_retI (pc := 168) k_Te_joined_168 rfl (by first | rfl | decide | assumption) ?_)
      | (refine T_iconst (v := (nI 0)) (pc1 := 170) (pc := 169) k_Te_joined_169 rfl (by decide) ?_ <;> try (refine T_retI (pc := 170) k_Te_joined_170 rfl (by first | rfl | decide | assumption) ?_))
      | (with_reducible refine swN_Te_joined_1 (by omega) (fun hc => ?_) (fun hc => ?_) (fun hc => ?_) (fun hc => ?_) (fun hc => ?_) (fun hc => ?_) (fun hc => ?_) (fun hc => ?_) (fun hc => ?_) (fun hc => ?_) <;> first | (exfalso; omega) | skip)
      | refine sw_Te_joined_1 (fun hc => ?_) (fun hc => ?_) (fun hc => ?_) (fun hc => ?_) (fun hc => ?_) (fun hc => ?_) (fun hc => ?_) (fun hc => ?_) (fun hc => ?_) (fun hc => ?_)
      | (with_reducible refine T_if_neN (tgt := 92) (pc1 := 88) (pc := 85) k_Te_joined_85 (by decide) (by decide) (by omega) (fun hc => ?_) (fun hc => ?_) <;> first | (exfalso; omega) | skip)
      | refine T_if_ne_t (tgt := 92) (pc := 85) k_Te_joined_85 rfl (by decide) ?_
      | refine T_if_ne_f (tgt := 92) (pc1 := 88) (pc := 85) k_Te_joined_85 rfl rfl (by decide) ?_
      | refine T_if_ne (tgt := 92) (pc1 := 88) (pc := 85) k_Te_joined_85 rfl rfl (fun hc => ?_) (fun hc => ?_)
      | (with_reducible refine T_if_eqN (tgt := 96) (pc1 := 92) (pc := 89) k_Te_joined_89 (by decide) (by decide) (by omega) (fun hc => ?_) (fun hc => ?_) <;> first | (exfalso; omega) | skip)
      | refine T_if_eq_t (tgt := 96) (pc := 89) k_Te_joined_89 rfl (by decide) ?_
      | refine T_if_eq_f (tgt := 96) (pc1 := 92) (pc := 89) k_Te_joined_89 rfl rfl (by decide) ?_
      | refine T_if_eq (tgt := 96) (pc1 := 92) (pc := 89) k_Te_joined_89 rfl rfl (fun hc => ?_) (fun hc => ?_)
      | refine T_goto (tgt := 97) (pc := 93) k_Te_joined_93 rfl ?_
      | (with_reducible refine T_if_eqN (tgt := 110) (pc1 := 102) (pc := 99) k_Te_joined_99 (by decide) (by decide) (by omega) (fun hc => ?_) (fun hc => ?_) <;> first | (exfalso; omega) | skip)
      | refine T_if_eq_t (tgt := 110) (pc := 99) k_Te_joined_99 rfl (by decide) ?_
      | refine T_if_eq_f (tgt := 110) (pc1 := 102) (pc := 99) k_Te_joined_99 rfl rfl (by decide) ?_
      | refine T_if_eq (tgt := 110) (pc1 := 102) (pc := 99) k_Te_joined_99 rfl rfl (fun hc => ?_) (fun hc => ?_)
      | (with_reducible refine T_if_eqN (tgt := 110) (pc1 := 106) (pc := 103) k_Te_joined_103 (by decide) (by decide) (by omega) (fun hc => ?_) (fun hc => ?_) <;> first | (exfalso; omega) | skip)
      | refine T_if_eq_t (tgt := 110) (pc := 103) k_Te_joined_103 rfl (by decide) ?_
      | refine T_if_eq_f (tgt := 110) (pc1 := 106) (pc := 103) k_Te_joined_103 rfl rfl (by decide) ?_
      | refine T_if_eq (tgt := 110) (pc1 := 106) (pc := 103) k_Te_joined_103 rfl rfl (fun hc => ?_) (fun hc => ?_)
      | refine T_goto (tgt := 111) (pc := 107) k_Te_joined_107 rfl ?_
      | refine T_iload_n (pc1 := 114) (pc := 113) k_Te_joined_113 rfl rfl ?_
      | (with_reducible refine T_icmp_geN (tgt := 121) (pc1 := 117) (pc := 114) k_Te_joined_114 (by decide) (by decide) (by omega) (by omega) (fun hc => ?_) (fun hc => ?_) <;> first | (exfalso; omega) | skip)
      | refine T_icmp_ge_t (tgt := 121) (pc := 114) k_Te_joined_114 rfl (by decide) ?_
      | refine T_icmp_ge_f (tgt := 121) (pc1 := 117) (pc := 114) k_Te_joined_114 rfl rfl (by decide) ?_
      | refine T_icmp_ge (tgt := 121) (pc1 := 117) (pc := 114) k_Te_joined_114 rfl rfl (fun hc => ?_) (fun hc => ?_)
      | refine T_goto (tgt := 122) (pc := 118) k_Te_joined_118 rfl ?_
      | refine T_iload_n (pc1 := 125) (pc := 124) k_Te_joined_124 rfl rfl ?_
      | refine T_goto (tgt := 133) (pc := 129) k_Te_joined_129 rfl ?_
      | refine T_iload_n (pc1 := 136) (pc := 135) k_Te_joined_135 rfl rfl ?_
      | (with_reducible refine T_icmp_leN (tgt := 143) (pc1 := 139) (pc := 136) k_Te_joined_136 (by decide) (by decide) (by omega) (by omega) (fun hc => ?_) (fun hc => ?_) <;> first | (exfalso; omega) | skip)
      | refine T_icmp_le_t (tgt := 143) (pc := 136) k_Te_joined_136 rfl (by decide) ?_
      | refine T_icmp_le_f (tgt := 143) (pc1 := 139) (pc := 136) k_Te_joined_136 rfl rfl (by decide) ?_
      | refine T_icmp_le (tgt := 143) (pc1 := 139) (pc := 136) k_Te_joined_136 rfl rfl (fun hc => ?_) (fun hc => ?_)
      | refine T_goto (tgt := 144) (pc := 140) k_Te_joined_140 rfl ?_
      | refine T_iload_n (pc1 := 147) (pc := 146) k_Te_joined_146 rfl rfl ?_
      | with_reducible refine T_iaddN (pc1 := 148) (pc := 147) k_Te_joined_147 (by decide) ?_
      | refine T_iadd (pc1 := 148) (pc := 147) k_Te_joined_147 rfl ?_
      | refine T_retI (pc := 148) k_Te_joined_148 rfl (by first | rfl | decide | assumption) ?_
      | refine T_iload_n (pc1 := 151) (pc := 150) k_Te_joined_150 rfl rfl ?_
      | with_reducible refine T_isubN (pc1 := 152) (pc := 151) k_Te_joined_151 (by decide) (by omega) ?_
      | refine T_isub (pc1 := 152) (pc := 151) k_Te_joined_151 rfl ?_
      | refine T_retI (pc := 152) k_Te_joined_152 rfl (by first | rfl | decide | assumption) ?_
      | refine T_iload_n (pc1 := 155) (pc := 154) k_Te_joined_154 rfl rfl ?_
      | with_reducible refine T_imulN (pc1 := 156) (pc := 155) k_Te_joined_155 (by decide) ?_
      | refine T_imul (pc1 := 156) (pc := 155) k_Te_joined_155 rfl ?_
      | refine T_retI (pc := 156) k_Te_joined_156 rfl (by first | rfl | decide | assumption) ?_
      | (with_reducible refine T_if_neN (tgt := 165) (pc1 := 161) (pc := 158) k_Te_joined_158 (by decide) (by decide) (by omega) (fun hc => ?_) (fun hc => ?_) <;> first | (exfalso; omega) | skip)
      | refine T_if_ne_t (tgt := 165) (pc := 158) k_Te_joined_158 rfl (by decide) ?_
      | refine T_if_ne_f (tgt := 165) (pc1 := 161) (pc := 158) k_Te_joined_158 rfl rfl (by decide) ?_
      | refine T_if_ne (tgt := 165) (pc1 := 161) (pc := 158) k_Te_joined_158 rfl rfl (fun hc => ?_) (fun hc => ?_)
      | refine T_goto (tgt := 168) (pc := 162) k_Te_joined_162 rfl ?_
      | refine T_iload_n (pc1 := 167) (pc := 166) k_Te_joined_166 rfl rfl ?_
      | refine T_idiv (pc1 := 168) (pc := 167) k_Te_joined_167 rfl (by first | assumption | decide) ?_
      | refine T_retI (pc := 170) k_Te_joined_170 rfl (by first | rfl | decide | assumption) ?_)
    exact kk _ rfl
  rw [if_neg c5]
  rw [if_neg c5] at kk
  by_cases c6 : op = -26
  · rw [if_pos c6]
    rw [if_pos c6] at kk
    repeat' (first
      | (refine T_iload_n (pc1 := 1) (pc := 0) k_Te_joined_0 rfl rfl ?_ <;> try ((first | (with_reducible refine swN_Te_joined_1 (by omega) (fun hc => ?_) (fun hc => ?_) (fun hc => ?_) (fun hc => ?_) (fun hc => ?_) (fun hc => ?_) (fun hc => ?_) (fun hc => ?_) (fun hc => ?_) (fun hc => ?_) <;> first | (exfalso; omega) | skip) | refine sw_Te_joined_1 (fun hc => ?_) (fun hc => ?_) (fun hc => ?_) (fun hc => ?_) (fun hc => ?_) (fun hc => ?_) (fun hc => ?_) (fun hc => ?_) (fun hc => ?_) (fun hc => ?_))))
      | (refine T_iload_n (pc1 := 85) (pc := 84) k_Te_joined_84 rfl rfl ?_ <;> try ((first | (with_reducible refine T_if_neN (tgt := 92) (pc1 := 88) (pc := 85) k_Te_joined_85 (by decide) (by decide) (by omega) (fun hc => ?_) (fun hc => ?_) <;> first | (exfalso; omega) | skip) | refine T_if_ne_t (tgt := 92) (pc := 85) k_Te_joined_85 rfl (by decide) ?_ | refine T_if_ne_f (tgt := 92) (pc1 := 88) (pc := 85) k_Te_joined_85 rfl rfl (by decide) ?_ | refine T_if_ne (tgt := 92) (pc1 := 88) (pc := 85) k_Te_joined_85 rfl rfl (fun hc => ?_) (fun hc => ?_))))
      | (refine T_iload_n (pc1 := 89) (pc := 88) k_Te_joined_88 rfl rfl ?_ <;> try ((first | (with_reducible refine T_if_eqN (tgt := 96) (pc1 := 92) (pc := 89) k_Te_joined_89 (by decide) (by decide) (by omega) (fun hc => ?_) (fun hc => ?_) <;> first | (exfalso; omega) | skip) | refine T_if_eq_t (tgt := 96) (pc := 89) k_Te_joined_89 rfl (by decide) ?_ | refine T_if_eq_f (tgt := 96) (pc1 := 92) (pc := 89) k_Te_joined_89 rfl rfl (by decide) ?_ | refine T_if_eq (tgt := 96) (pc1 := 92) (pc := 89) k_Te_joined_89 rfl rfl (fun hc => ?_) (fun hc => ?_))))
      | (refine T_iconst (v := (nI 1)) (pc1 := 93) (pc := 92) k_Te_joined_92 rfl (by decide) ?_ <;> try (refine T_goto (tgt := 97) (pc := 93) k_Te_joined_93 rfl ?_))
      | (refine T_iconst (v := (nI 0)) (pc1 := 97) (pc := 96) k_Te_joined_96 rfl (by decide) ?_)
      | (refine T_retI (pc := 97) k_Te_joined_97 rfl (by first | rfl | decide | assumption) ?_)
      | (refine T_iload_n (pc1 := 99) (pc := 98) k_Te_joined_98 rfl rfl ?_ <;> try ((first | (with_reducible refine T_if_eqN (tgt := 110) (pc1 := 102) (pc := 99) k_Te_joined_99 (by decide) (by decide) (by omega) (fun hc => ?_) (fun hc => ?_) <;> first | (exfalso; omega) | skip) | refine T_if_eq_t (tgt := 110) (pc := 99) k_Te_joined_99 rfl (by decide) ?_ | refine T_if_eq_f (tgt := 110) (pc1 := 102) (pc := 99) k_Te_joined_99 rfl rfl (by decide) ?_ | refine T_if_eq (tgt := 110) (pc1 := 102) (pc := 99) k_Te_joined_99 rfl rfl (fun hc => ?_) (fun hc => ?_))))
      | (refine T_iload_n (pc1 := 103) (pc := 102) k_Te_joined_102 rfl rfl ?_ <;> try ((first | (with_reducible refine T_if_eqN (tgt := 110) (pc1 := 106) (pc := 103) k_Te_joined_103 (by decide) (by decide) (by omega) (fun hc => ?_) (fun hc => ?_) <;> first | (exfalso; omega) | skip) | refine T_if_eq_t (tgt := 110) (pc := 103) k_Te_joined_103 rfl (by decide) ?_ | refine T_if_eq_f (tgt := 110) (pc1 := 106) (pc := 103) k_Te_joined_103 rfl rfl (by decide) ?_ | refine T_if_eq (tgt := 110) (pc1 := 106) (pc := 103) k_Te_joined_103 rfl rfl (fun hc => ?_) (fun hc => ?_))))
      | (refine T_iconst (v := (nI 1)) (pc1 := 107) (pc := 106) k_Te_joined_106 rfl (by decide) ?_ <;> try (refine T_goto (tgt := 111) (pc := 107) k_Te_joined_107 rfl ?_))
      | (refine T_iconst (v := (nI 0)) (pc1 := 111) (pc := 110) k_Te_joined_110 rfl (by decide) ?_)
      | (refine T_retI (pc := 111) k_Te_joined_111 rfl (by first | rfl | decide | assumption) ?_)
      | (refine T_iload_n (pc1 := 113) (pc := 112) k_Te_joined_112 rfl rfl ?_ <;> try (refine T_iload_n (pc1 := 114) (pc := 113) k_Te_joined_113 rfl rfl ?_ <;> try ((first | (with_reducible refine T_icmp_geN (tgt := 121) (pc1 := 117) (pc := 114) k_Te_joined_114 (by decide) (by decide) (by omega) (by omega) (fun hc => ?_) (fun hc => ?_) <;> first | (exfalso; omega) | skip) | refine T_icmp_ge_t (tgt := 121) (pc := 114) k_Te_joined_114 rfl (by decide) ?_ | refine T_icmp_ge_f (tgt := 121) (pc1 := 117) (pc := 114) k_Te_joined_114 rfl rfl (by decide) ?_ | refine T_icmp_ge (tgt := 121) (pc1 := 117) (pc := 114) k_Te_joined_114 rfl rfl (fun hc => ?_) (fun hc => ?_)))))
      | (refine T_iconst (v := (nI 1)) (pc1 := 118) (pc := 117) k_Te_joined_117 rfl (by decide) ?_ <;> try (refine T_goto (tgt := 122) (pc := 118) k_Te_joined_118 rfl ?_))
      | (refine T_iconst (v := (nI 0)) (pc1 := 122) (pc := 121) k_Te_joined_121 rfl (by decide) ?_)
      | (refine T_retI (pc := 122) k_Te_joined_122 rfl (by first | rfl | decide | assumption) ?_)
      | (refine T_iload_n (pc1 := 124) (pc := 123) k_Te_joined_123 rfl rfl ?_ <;> try (refine T_iload_n (pc1 := 125) (pc := 124) k_Te_joined_124 rfl rfl ?_))
      | ((first | (with_reducible refine T_icmp_neN (tgt := 132) (pc1 := 128) (pc := 125) k_Te_joined_125 (by decide) (by decide) (by omega) (by omega) (fun hc => ?_) (fun hc => ?_) <;> first | (exfalso; omega) | skip) | refine T_icmp_ne_t (tgt := 132) (pc := 125) k_Te_joined_125 rfl (by decide) ?_ | refine T_icmp_ne_f (tgt := 132) (pc1 := 128) (pc := 125) k_Te_joined_125 rfl rfl (by decide) ?_ | refine T_icmp_ne (tgt := 132) (pc1 := 128) (pc := 125) k_Te_joined_125 rfl rfl (fun hc => ?_) (fun hc => ?_)))
      | (refine T_iconst (v := (nI 1)) (pc1 := 129) (pc := 128) k_Te_joined_128 rfl (by decide) ?_ <;> try (refine T_goto (tgt := 133) (pc := 129) k_Te_joined_129 rfl ?_))
      | (refine T_iconst (v := (nI 0)) (pc1 := 133) (pc := 132) k_Te_joined_132 rfl (by decide) ?_)
      | (refine T_retI (pc := 133) k_Te_joined_133 rfl (by first | rfl | decide | assumption) ?_)
      | (refine T_iload_n (pc1 := 135) (pc := 134) k_Te_joined_134 rfl rfl ?_ <;> try (refine T_iload_n (pc1 := 136) (pc := 135) k_Te_joined_135 rfl rfl ?_ <;> try ((first | (with_reducible refine T_icmp_leN (tgt := 143) (pc1 := 139) (pc := 136) k_Te_joined_136 (by decide) (by decide) (by omega) (by omega) (fun hc => ?_) (fun hc => ?_) <;> first | (exfalso; omega) | skip) | refine T_icmp_le_t (tgt := 143) (pc := 136) k_Te_joined_136 rfl (by decide) ?_ | refine T_icmp_le_f (tgt := 143) (pc1 := 139) (pc := 136) k_Te_joined_136 rfl rfl (by decide) ?_ | refine T_icmp_le (tgt := 143) (pc1 := 139) (pc := 136) k_Te_joined_136 rfl rfl (fun hc => ?_) (fun hc => ?_)))))
      | (refine T_iconst (v := (nI 1)) (pc1 := 140) (pc := 139) k_Te_joined_139 rfl (by decide) ?_ <;> try (refine T_goto (tgt := 144) (pc := 140) k_Te_joined_140 rfl ?_))
      | (refine T_iconst (v := (nI 0)) (pc1 := 144) (pc := 143) k_Te_joined_143 rfl (by decide) ?_)
      | (refine T_retI (pc := 144) k_Te_joined_144 rfl (by first | rfl | decide | assumption) ?_)
      | (refine T_iload_n (pc1 := 146) (pc := 145) k_Te_joined_145 rfl rfl ?_ <;> try (refine T_iload_n (pc1 := 147) (pc := 146) k_Te_joined_146 rfl rfl ?_ <;> try ((first | with_reducible refine T_iaddN (pc1 := 148) (pc := 147) k_Te_joined_147 (by decide) ?_ | refine T_iadd (pc1 := 148) (pc := 147) k_Te_joined_147 rfl ?_) <;> try (refine T_retI (pc := 148) k_Te_joined_148 rfl (by first | rfl | decide | assumption) ?_))))
      | (refine T_iload_n (pc1 := 150) (pc := 149) k_Te_joined_149 rfl rfl ?_ <;> try (refine T_iload_n (pc1 := 151) (pc := 150) k_Te_joined_150 rfl rfl ?_ <;> try ((first | with_reducible refine T_isubN (pc1 := 152) (pc := 151) k_Te_joined_151 (by decide) (by omega) ?_ | refine T_isub (pc1 := 152) (pc := 151) k_Te_joined_151 rfl ?_) <;> try (refine T_retI (pc := 152) k_Te_joined_152 rfl (by first | rfl | decide | assumption) ?_))))
      | (refine T_iload_n (pc1 := 154) (pc := 153) k_Te_joined_153 rfl rfl ?_ <;> try (refine T_iload_n (pc1 := 155) (pc := 154) k_Te_joined_154 rfl rfl ?_ <;> try ((first | with_reducible refine T_imulN (pc1 := 156) (pc := 155) k_Te_joined_155 (by decide) ?_ | refine T_imul (pc1 := 156) (pc := 155) k_Te_joined_155 rfl ?_) <;> try (refine T_retI (pc := 156) k_Te_joined_156 rfl (by first | rfl | decide | assumption) ?_))))
      | (refine T_iload_n (pc1 := 158) (pc := 157) k_Te_joined_157 rfl rfl ?_ <;> try ((first | (with_reducible refine T_if_neN (tgt := 165) (pc1 := 161) (pc := 158) k_Te_joined_158 (by decide) (by decide) (by omega) (fun hc => ?_) (fun hc => ?_) <;> first | (exfalso; omega) | skip) | refine T_if_ne_t (tgt := 165) (pc := 158) k_Te_joined_158 rfl (by decide) ?_ | refine T_if_ne_f (tgt := 165) (pc1 := 161) (pc := 158) k_Te_joined_158 rfl rfl (by decide) ?_ | refine T_if_ne (tgt := 165) (pc1 := 161) (pc := 158) k_Te_joined_158 rfl rfl (fun hc => ?_) (fun hc => ?_))))
      | (refine T_iconst (v := (nI 0)) (pc1 := 162) (pc := 161) k_Te_joined_161 rfl (by decide) ?_ <;> try (refine T_goto (tgt := 168) (pc := 162) k_Te_joined_162 rfl ?_))
      | (refine T_iload_n (pc1 := 166) (pc := 165) k_Te_joined_165 rfl rfl ?_ <;> try (refine T_iload_n (pc1 := 167) (pc := 166) k_Te_joined_166 rfl rfl ?_ <;> try (refine T_idiv (pc1 := 168) (pc := 167) k_Te_joined_167 rfl (by first | assumption | decide) ?_)))
      | (refine T_retI (pc := 168) k_Te_joined_168 rfl (by first | rfl | decide | assumption) ?_)
      | (refine T_iconst (v := (nI 0)) (pc1 := 170) (pc := 169) k_Te_joined_169 rfl (by decide) ?_ <;> try (refine T_retI (pc := 170) k_Te_joined_170 rfl (by first | rfl | decide | assumption) ?_))
      | (with_reducible refine swN_Te_joined_1 (by omega) (fun hc => ?_) (fun hc => ?_) (fun hc => ?_) (fun hc => ?_) (fun hc => ?_) (fun hc => ?_) (fun hc => ?_) (fun hc => ?_) (fun hc => ?_) (fun hc => ?_) <;> first | (exfalso; omega) | skip)
      | refine sw_Te_joined_1 (fun hc => ?_) (fun hc => ?_) (fun hc => ?_) (fun hc => ?_) (fun hc => ?_) (fun hc => ?_) (fun hc => ?_) (fun hc => ?_) (fun hc => ?_) (fun hc => ?_)
      | (with_reducible refine T_if_neN (tgt := 92) (pc1 := 88) (pc := 85) k_Te_joined_85 (by decide) (by decide) (by omega) (fun hc => ?_) (fun hc => ?_) <;> first | (exfalso; omega) | skip)
      | refine T_if_ne_t (tgt := 92) (pc := 85) k_Te_joined_85 rfl (by decide) ?_
      | refine T_if_ne_f (tgt := 92) (pc1 := 88) (pc := 85) k_Te_joined_85 rfl rfl (by decide) ?_
      | refine T_if_ne (tgt := 92) (pc1 := 88) (pc := 85) k_Te_joined_85 rfl rfl (fun hc => ?_) (fun hc => ?_)
      | (with_reducible refine T_if_eqN (tgt := 96) (pc1 := 92) (pc := 89) k_Te_joined_89 (by decide) (by decide) (by omega) (fun hc => ?_) (fun hc => ?_) <;> first | (exfalso; omega) | skip)
      | refine T_if_eq_t (tgt := 96) (pc := 89) k_Te_joined_89 rfl (by decide) ?_
      | refine T_if_eq_f (tgt := 96) (pc1 := 92) (pc := 89) k_Te_joined_89 rfl rfl (by decide) ?_
      | refine T_if_eq (tgt := 96) (pc1 := 92) (pc := 89) k_Te_joined_89 rfl rfl (fun hc => ?_) (fun hc => ?_)
      | refine T_goto (tgt := 97) (pc := 93) k_Te_joined_93 rfl ?_
      | (with_reducible refine T_if_eqN (tgt := 110) (pc1 := 102) (pc := 99) k_Te_joined_99 (by decide) (by decide) (by omega) (fun hc => ?_) (fun hc => ?_) <;> first | (exfalso; omega) | skip)
      | refine T_if_eq_t (tgt := 110) (pc := 99) k_Te_joined_99 rfl (by decide) ?_
      | refine T_if_eq_f (tgt := 110) (pc1 := 102) (pc := 99) k_Te_joined_99 rfl rfl (by decide) ?_
      | refine T_if_eq (tgt := 110) (pc1 := 102) (pc := 99) k_Te_joined_99 rfl rfl (fun hc => ?_) (fun hc => ?_)
      | (with_reducible refine T_if_eqN (tgt := 110) (pc1 := 106) (pc := 103) k_Te_joined_103 (by decide) (by decide) (by omega) (fun hc => ?_) (fun hc => ?_) <;> first | (exfalso; omega) | skip)
      | refine T_if_eq_t (tgt := 110) (pc := 103) k_Te_joined_103 rfl (by decide) ?_
      | refine T_if_eq_f (tgt := 110) (pc1 := 106) (pc := 103) k_Te_joined_103 rfl rfl (by decide) ?_
      | refine T_if_eq (tgt := 110) (pc1 := 106) (pc := 103) k_Te_joined_103 rfl rfl (fun hc => ?_) (fun hc => ?_)
      | refine T_goto (tgt := 111) (pc := 107) k_Te_joined_107 rfl ?_
      | refine T_iload_n (pc1 := 114) (pc := 113) k_Te_joined_113 rfl rfl ?_
      | (with_reducible refine T_icmp_geN (tgt := 121) (pc1 := 117) (pc := 114) k_Te_joined_114 (by decide) (by decide) (by omega) (by omega) (fun hc => ?_) (fun hc => ?_) <;> first | (exfalso; omega) | skip)
      | refine T_icmp_ge_t (tgt := 121) (pc := 114) k_Te_joined_114 rfl (by decide) ?_
      | refine T_icmp_ge_f (tgt := 121) (pc1 := 117) (pc := 114) k_Te_joined_114 rfl rfl (by decide) ?_
      | refine T_icmp_ge (tgt := 121) (pc1 := 117) (pc := 114) k_Te_joined_114 rfl rfl (fun hc => ?_) (fun hc => ?_)
      | refine T_goto (tgt := 122) (pc := 118) k_Te_joined_118 rfl ?_
      | refine T_iload_n (pc1 := 125) (pc := 124) k_Te_joined_124 rfl rfl ?_
      | refine T_goto (tgt := 133) (pc := 129) k_Te_joined_129 rfl ?_
      | refine T_iload_n (pc1 := 136) (pc := 135) k_Te_joined_135 rfl rfl ?_
      | (with_reducible refine T_icmp_leN (tgt := 143) (pc1 := 139) (pc := 136) k_Te_joined_136 (by decide) (by decide) (by omega) (by omega) (fun hc => ?_) (fun hc => ?_) <;> first | (exfalso; omega) | skip)
      | refine T_icmp_le_t (tgt := 143) (pc := 136) k_Te_joined_136 rfl (by decide) ?_
      | refine T_icmp_le_f (tgt := 143) (pc1 := 139) (pc := 136) k_Te_joined_136 rfl rfl (by decide) ?_
      | refine T_icmp_le (tgt := 143) (pc1 := 139) (pc := 136) k_Te_joined_136 rfl rfl (fun hc => ?_) (fun hc => ?_)
      | refine T_goto (tgt := 144) (pc := 140) k_Te_joined_140 rfl ?_
      | refine T_iload_n (pc1 := 147) (pc := 146) k_Te_joined_146 rfl rfl ?_
      | with_reducible refine T_iaddN (pc1 := 148) (pc := 147) k_Te_joined_147 (by decide) ?_
      | refine T_iadd (pc1 := 148) (pc := 147) k_Te_joined_147 rfl ?_
      | refine T_retI (pc := 148) k_Te_joined_148 rfl (by first | rfl | decide | assumption) ?_
      | refine T_iload_n (pc1 := 151) (pc := 150) k_Te_joined_150 rfl rfl ?_
      | with_reducible refine T_isubN (pc1 := 152) (pc := 151) k_Te_joined_151 (by decide) (by omega) ?_
      | refine T_isub (pc1 := 152) (pc := 151) k_Te_joined_151 rfl ?_
      | refine T_retI (pc := 152) k_Te_joined_152 rfl (by first | rfl | decide | assumption) ?_
      | refine T_iload_n (pc1 := 155) (pc := 154) k_Te_joined_154 rfl rfl ?_
      | with_reducible refine T_imulN (pc1 := 156) (pc := 155) k_Te_joined_155 (by decide) ?_
      | refine T_imul (pc1 := 156) (pc := 155) k_Te_joined_155 rfl ?_
      | refine T_retI (pc := 156) k_Te_joined_156 rfl (by first | rfl | decide | assumption) ?_
      | (with_reducible refine T_if_neN (tgt := 165) (pc1 := 161) (pc := 158) k_Te_joined_158 (by decide) (by decide) (by omega) (fun hc => ?_) (fun hc => ?_) <;> first | (exfalso; omega) | skip)
      | refine T_if_ne_t (tgt := 165) (pc := 158) k_Te_joined_158 rfl (by decide) ?_
      | refine T_if_ne_f (tgt := 165) (pc1 := 161) (pc := 158) k_Te_joined_158 rfl rfl (by decide) ?_
      | refine T_if_ne (tgt := 165) (pc1 := 161) (pc := 158) k_Te_joined_158 rfl rfl (fun hc => ?_) (fun hc => ?_)
      | refine T_goto (tgt := 168) (pc := 162) k_Te_joined_162 rfl ?_
      | refine T_iload_n (pc1 := 167) (pc := 166) k_Te_joined_166 rfl rfl ?_
      | refine T_idiv (pc1 := 168) (pc := 167) k_Te_joined_167 rfl (by first | assumption | decide) ?_
      | refine T_retI (pc := 170) k_Te_joined_170 rfl (by first | rfl | decide | assumption) ?_)
    exact kk _ rfl
  rw [if_neg c6]
  rw [if_neg c6] at kk
  by_cases c7 : op = -27
  · rw [if_pos c7]
    rw [if_pos c7] at kk
    repeat' (first
      | (refine T_iload_n (pc1 := 1) (pc := 0) k_Te_joined_0 rfl rfl ?_ <;> try ((first | (with_reducible refine swN_Te_joined_1 (by omega) (fun hc => ?_) (fun hc => ?_) (fun hc => ?_) (fun hc => ?_) (fun hc => ?_) (fun hc => ?_) (fun hc => ?_) (fun hc => ?_) (fun hc => ?_) (fun hc => ?_) <;> first | (exfalso; omega) | skip) | refine sw_Te_joined_1 (fun hc => ?_) (fun hc => ?_) (fun hc => ?_) (fun hc => ?_) (fun hc => ?_) (fun hc => ?_) (fun hc => ?_) (fun hc => ?_) (fun hc => ?_) (fun hc => ?_))))
      | (refine T_iload_n (pc1 := 85) (pc := 84) k_Te_joined_84 rfl rfl ?_ <;> try ((first | (with_reducible refine T_if_neN (tgt := 92) (pc1 := 88) (pc := 85) k_Te_joined_85 (by decide) (by decide) (by omega) (fun hc => ?_) (fun hc => ?_) <;> first | (exfalso; omega) | skip) | refine T_if_ne_t (tgt := 92) (pc := 85) k_Te_joined_85 rfl (by decide) ?_ | refine T_if_ne_f (tgt := 92) (pc1 := 88) (pc := 85) k_Te_joined_85 rfl rfl (by decide) ?_ | refine T_if_ne (tgt := 92) (pc1 := 88) (pc := 85) k_Te_joined_85 rfl rfl (fun hc => ?_) (fun hc => ?_))))
      | (refine T_iload_n (pc1 := 89) (pc := 88) k_Te_joined_88 rfl rfl ?_ <;> try ((first | (with_reducible refine T_if_eqN (tgt := 96) (pc1 := 92) (pc := 89) k_Te_joined_89 (by decide) (by decide) (by omega) (fun hc => ?_) (fun hc => ?_) <;> first | (exfalso; omega) | skip) | refine T_if_eq_t (tgt := 96) (pc := 89) k_Te_joined_89 rfl (by decide) ?_ | refine T_if_eq_f (tgt := 96) (pc1 := 92) (pc := 89) k_Te_joined_89 rfl rfl (by decide) ?_ | refine T_if_eq (tgt := 96) (pc1 := 92) (pc := 89) k_Te_joined_89 rfl rfl (fun hc => ?_) (fun hc => ?_))))
      | (refine T_iconst (v := (nI 1)) (pc1 := 93) (pc := 92) k_Te_joined_92 rfl (by decide) ?_ <;> try (refine T_goto (tgt := 97) (pc := 93) k_Te_joined_93 rfl ?_))
      | (refine T_iconst (v := (nI 0)) (pc1 := 97) (pc := 96) k_Te_joined_96 rfl (by decide) ?_)
      | (refine T_retI (pc := 97) k_Te_joined_97 rfl (by first | rfl | decide | assumption) ?_)
      | (refine T_iload_n (pc1 := 99) (pc := 98) k_Te_joined_98 rfl rfl ?_ <;> try ((first | (with_reducible refine T_if_eqN (tgt := 110) (pc1 := 102) (pc := 99) k_Te_joined_99 (by decide) (by decide) (by omega) (fun hc => ?_) (fun hc => ?_) <;> first | (exfalso; omega) | skip) | refine T_if_eq_t (tgt := 110) (pc := 99) k_Te_joined_99 rfl (by decide) ?_ | refine T_if_eq_f (tgt := 110) (pc1 := 102) (pc := 99) k_Te_joined_99 rfl rfl (by decide) ?_ | refine T_if_eq (tgt := 110) (pc1 := 102) (pc := 99) k_Te_joined_99 rfl rfl (fun hc => ?_) (fun hc => ?_))))
      | (refine T_iload_n (pc1 := 103) (pc := 102) k_Te_joined_102 rfl rfl ?_ <;> try ((first | (with_reducible refine T_if_eqN (tgt := 110) (pc1 := 106) (pc := 103) k_Te_joined_103 (by decide) (by decide) (by omega) (fun hc => ?_) (fun hc => ?_) <;> first | (exfalso; omega) | skip) | refine T_if_eq_t (tgt := 110) (pc := 103) k_Te_joined_103 rfl (by decide) ?_ | refine T_if_eq_f (tgt := 110) (pc1 := 106) (pc := 103) k_Te_joined_103 rfl rfl (by decide) ?_ | refine T_if_eq (tgt := 110) (pc1 := 106) (pc := 103) k_Te_joined_103 rfl rfl (fun hc => ?_) (fun hc => ?_))))
      | (refine T_iconst (v := (nI 1)) (pc1 := 107) (pc := 106) k_Te_joined_106 rfl (by decide) ?_ <;> try (refine T_goto (tgt := 111) (pc := 107) k_Te_joined_107 rfl ?_))
      | (refine T_iconst (v := (nI 0)) (pc1 := 111) (pc := 110) k_Te_joined_110 rfl (by decide) ?_)
      | (refine T_retI (pc := 111) k_Te_joined_111 rfl (by first | rfl | decide | assumption) ?_)
      | (refine T_iload_n (pc1 := 113) (pc := 112) k_Te_joined_112 rfl rfl ?_ <;> try (refine T_iload_n (pc1 := 114) (pc := 113) k_Te_joined_113 rfl rfl ?_ <;> try ((first | (with_reducible refine T_icmp_geN (tgt := 121) (pc1 := 117) (pc := 114) k_Te_joined_114 (by decide) (by decide) (by omega) (by omega) (fun hc => ?_) (fun hc => ?_) <;> first | (exfalso; omega) | skip) | refine T_icmp_ge_t (tgt := 121) (pc := 114) k_Te_joined_114 rfl (by decide) ?_ | refine T_icmp_ge_f (tgt := 121) (pc1 := 117) (pc := 114) k_Te_joined_114 rfl rfl (by decide) ?_ | refine T_icmp_ge (tgt := 121) (pc1 := 117) (pc := 114) k_Te_joined_114 rfl rfl (fun hc => ?_) (fun hc => ?_)))))
      | (refine T_iconst (v := (nI 1)) (pc1 := 118) (pc := 117) k_Te_joined_117 rfl (by decide) ?_ <;> try (refine T_goto (tgt := 122) (pc := 118) k_Te_joined_118 rfl ?_))
      | (refine T_iconst (v := (nI 0)) (pc1 := 122) (pc := 121) k_Te_joined_121 rfl (by decide) ?_)
      | (refine T_retI (pc := 122) k_Te_joined_122 rfl (by first | rfl | decide | assumption) ?_)
      | (refine T_iload_n (pc1 := 124) (pc := 123) k_Te_joined_123 rfl rfl ?_ <;> try (refine T_iload_n (pc1 := 125) (pc := 124) k_Te_joined_124 rfl rfl ?_))
      | ((first | (with_reducible refine T_icmp_neN (tgt := 132) (pc1 := 128) (pc := 125) k_Te_joined_125 (by decide) (by decide) (by omega) (by omega) (fun hc => ?_) (fun hc => ?_) <;> first | (exfalso; omega) | skip) | refine T_icmp_ne_t (tgt := 132) (pc := 125) k_Te_joined_125 rfl (by decide) ?_ | refine T_icmp_ne_f (tgt := 132) (pc1 := 128) (pc := 125) k_Te_joined_125 rfl rfl (by decide) ?_ | refine T_icmp_ne (tgt := 132) (pc1 := 128) (pc := 125) k_Te_joined_125 rfl rfl (fun hc => ?_) (fun hc => ?_)))
      | (refine T_iconst (v := (nI 1)) (pc1 := 129) (pc := 128) k_Te_joined_128 rfl (by decide) ?_ <;> try (refine T_goto (tgt := 133) (pc := 129) k_Te_joined_129 rfl ?_))
      | (refine T_iconst (v := (nI 0)) (pc1 := 133) (pc := 132) k_Te_joined_132 rfl (by decide) ?_)
      | (refine T_retI (pc := 133) k_Te_joined_133 rfl (by first | rfl | decide | assumption) ?_)
      | (refine T_iload_n (pc1 := 135) (pc := 134) k_Te_joined_134 rfl rfl ?_ <;> try (refine T_iload_n (pc1 := 136) (pc := 135) k_Te_joined_135 rfl rfl ?_ <;> try ((first | (with_reducible refine T_icmp_leN (tgt := 143) (pc1 := 139) (pc := 136) k_Te_joined_136 (by decide) (by decide) (by omega) (by omega) (fun hc => ?_) (fun hc => ?_) <;> first | (exfalso; omega) | skip) | refine T_icmp_le_t (tgt := 143) (pc := 136) k_Te_joined_136 rfl (by decide) ?_ | refine T_icmp_le_f (tgt := 143) (pc1 := 139) (pc := 136) k_Te_joined_136 rfl rfl (by decide) ?_ | refine T_icmp_le (tgt := 143) (pc1 := 139) (pc := 136) k_Te_joined_136 rfl rfl (fun hc => ?_) (fun hc => ?_)))))
      | (refine T_iconst (v := (nI 1)) (pc1 := 140) (pc := 139) k_Te_joined_139 rfl (by decide) ?_ <;> try (refine T_goto (tgt := 144) (pc := 140) k_Te_joined_140 rfl ?_))
      | (refine T_iconst (v := (nI 0)) (pc1 := 144) (pc := 143) k_Te_joined_143 rfl (by decide) ?_)
      | (refine T_retI (pc := 144) k_Te_joined_144 rfl (by first | rfl | decide | assumption) ?_)
      | (refine T_iload_n (pc1 := 146) (pc := 145) k_Te_joined_145 rfl rfl ?_ <;> try (refine T_iload_n (pc1 := 147) (pc := 146) k_Te_joined_146 rfl rfl ?_ <;> try ((first | with_reducible refine T_iaddN (pc1 := 148) (pc := 147) k_Te_joined_147 (by decide) ?_ | refine T_iadd (pc1 := 148) (pc := 147) k_Te_joined_147 rfl ?_) <;> try (refine T_retI (pc := 148) k_Te_joined_148 rfl (by first | rfl | decide | assumption) ?_))))
      | (refine T_iload_n (pc1 := 150) (pc := 149) k_Te_joined_149 rfl rfl ?_ <;> try (refine T_iload_n (pc1 := 151) (pc := 150) k_Te_joined_150 rfl rfl ?_ <;> try ((first | with_reducible refine T_isubN (pc1 := 152) (pc := 151) k_Te_joined_151 (by decide) (by omega) ?_ | refine T_isub (pc1 := 152) (pc := 151) k_Te_joined_151 rfl ?_) <;> try (refine T_retI (pc := 152) k_Te_joined_152 rfl (by first | rfl | decide | assumption) ?_))))
      | (refine T_iload_n (pc1 := 154) (pc := 153) k_Te_joined_153 rfl rfl ?_ <;> try (refine T_iload_n (pc1 := 155) (pc := 154) k_Te_joined_154 rfl rfl ?_ <;> try ((first | with_reducible refine T_imulN (pc1 := 156) (pc := 155) k_Te_joined_155 (by decide) ?_ | refine T_imul (pc1 := 156) (pc := 155) k_Te_joined_155 rfl ?_) <;> try (refine T_retI (pc := 156) k_Te_joined_156 rfl (by first | rfl | decide | assumption) ?_))))
      | (refine T_iload_n (pc1 := 158) (pc := 157) k_Te_joined_157 rfl rfl ?_ <;> try ((first | (with_reducible refine T_if_neN (tgt := 165) (pc1 := 161) (pc := 158) k_Te_joined_158 (by decide) (by decide) (by omega) (fun hc => ?_) (fun hc => ?_) <;> first | (exfalso; omega) | skip) | refine T_if_ne_t (tgt := 165) (pc := 158) k_Te_joined_158 rfl (by decide) ?_ | refine T_if_ne_f (tgt := 165) (pc1 := 161) (pc := 158) k_Te_joined_158 rfl rfl (by decide) ?_ | refine T_if_ne (tgt := 165) (pc1 := 161) (pc := 158) k_Te_joined_158 rfl rfl (fun hc => ?_) (fun hc => ?_))))
      | (refine T_iconst (v := (nI 0)) (pc1 := 162) (pc := 161) k_Te_joined_161 rfl (by decide) ?_ <;> try (refine T_goto (tgt := 168) (pc := 162) k_Te_joined_162 rfl ?_))
      | (refine T_iload_n (pc1 := 166) (pc := 165) k_Te_joined_165 rfl rfl ?_ <;> try (refine T_iload_n (pc1 := 167) (pc := 166) k_Te_joined_166 rfl rfl ?_ <;> try (refine T_idiv (pc1 := 168) (pc := 167) k_Te_joined_167 rfl (by first | assumption | decide) ?_)))
      | (refine T_retI (pc := 168) k_Te_joined_168 rfl (by first | rfl | decide | assumption) ?_)
      | (refine T_iconst (v := (nI 0)) (pc1 := 170) (pc := 169) k_Te_joined_169 rfl (by decide) ?_ <;> try (refine T_retI (pc := 170) k_Te_joined_170 rfl (by first | rfl | decide | assumption) ?_))
      | (with_reducible refine swN_Te_joined_1 (by omega) (fun hc => ?_) (fun hc => ?_) (fun hc => ?_) (fun hc => ?_) (fun hc => ?_) (fun hc => ?_) (fun hc => ?_) (fun hc => ?_) (fun hc => ?_) (fun hc => ?_) <;> first | (exfalso; omega) | skip)
      | refine sw_Te_joined_1 (fun hc => ?_) (fun hc => ?_) (fun hc => ?_) (fun hc => ?_) (fun hc => ?_) (fun hc => ?_) (fun hc => ?_) (fun hc => ?_) (fun hc => ?_) (fun hc => ?_)
      | (with_reducible refine T_if_neN (tgt := 92) (pc1 := 88) (pc := 85) k_Te_joined_85 (by decide) (by decide) (by omega) (fun hc => ?_) (fun hc => ?_) <;> first | (exfalso; omega) | skip)
      | refine T_if_ne_t (tgt := 92) (pc := 85) k_Te_joined_85 rfl (by decide) ?_
      | refine T_if_ne_f (tgt := 92) (pc1 := 88) (pc := 85) k_Te_joined_85 rfl rfl (by decide) ?_
      | refine T_if_ne (tgt := 92) (pc1 := 88) (pc := 85) k_Te_joined_85 rfl rfl (fun hc => ?_) (fun hc => ?_)
      | (with_reducible refine T_if_eqN (tgt := 96) (pc1 := 92) (pc := 89) k_Te_joined_89 (by decide) (by decide) (by omega) (fun hc => ?_) (fun hc => ?_) <;> first | (exfalso; omega) | skip)
      | refine T_if_eq_t (tgt := 96) (pc := 89) k_Te_joined_89 rfl (by decide) ?_
      | refine T_if_eq_f (tgt := 96) (pc1 := 92) (pc := 89) k_Te_joined_89 rfl rfl (by decide) ?_
      | refine T_if_eq (tgt := 96) (pc1 := 92) (pc := 89) k_Te_joined_89 rfl rfl (fun hc => ?_) (fun hc => ?_)
      | refine T_goto (tgt := 97) (pc := 93) k_Te_joined_93 rfl ?_
      | (with_reducible refine T_if_eqN (tgt := 110) (pc1 := 102) (pc := 99) k_Te_joined_99 (by decide) (by decide) (by omega) (fun hc => ?_) (fun hc => ?_) <;> first | (exfalso; omega) | skip)
      | refine T_if_eq_t (tgt := 110) (pc := 99) k_Te_joined_99 rfl (by decide) ?_
      | refine T_if_eq_f (tgt := 110) (pc1 := 102) (pc := 99) k_Te_joined_99 rfl rfl (by decide) ?_
      | refine T_if_eq (tgt := 110) (pc1 := 102) (pc := 99) k_Te_joined_99 rfl rfl (fun hc => ?_) (fun hc => ?_)
      | (with_reducible refine T_if_eqN (tgt := 110) (pc1 := 106) (pc := 103) k_Te_joined_103 (by decide) (by decide) (by omega) (fun hc => ?_) (fun hc => ?_) <;> first | (exfalso; omega) | skip)
      | refine T_if_eq_t (tgt := 110) (pc := 103) k_Te_joined_103 rfl (by decide) ?_
      | refine T_if_eq_f (tgt := 110) (pc1 := 106) (pc := 103) k_Te_joined_103 rfl rfl (by decide) ?_
      | refine T_if_eq (tgt := 110) (pc1 := 106) (pc := 103) k_Te_joined_103 rfl rfl (fun hc => ?_) (fun hc => ?_)
      | refine T_goto (tgt := 111) (pc := 107) k_Te_joined_107 rfl ?_
      | refine T_iload_n (pc1 := 114) (pc := 113) k_Te_joined_113 rfl rfl ?_
      | (with_reducible refine T_icmp_geN (tgt := 121) (pc1 := 117) (pc := 114) k_Te_joined_114 (by decide) (by decide) (by omega) (by omega) (fun hc => ?_) (fun hc => ?_) <;> first | (exfalso; omega) | skip)
      | refine T_icmp_ge_t (tgt := 121) (pc := 114) k_Te_joined_114 rfl (by decide) ?_
      | refine T_icmp_ge_f (tgt := 121) (pc1 := 117) (pc := 114) k_Te_joined_114 rfl rfl (by decide) ?_
      | refine T_icmp_ge (tgt := 121) (pc1 := 117) (pc := 114) k_Te_joined_114 rfl rfl (fun hc => ?_) (fun hc => ?_)
      | refine T_goto (tgt := 122) (pc := 118) k_Te_joined_118 rfl ?_
      | refine T_iload_n (pc1 := 125) (pc := 124) k_Te_joined_124 rfl rfl ?_
      | refine T_goto (tgt := 133) (pc := 129) k_Te_joined_129 rfl ?_
      | refine T_iload_n (pc1 := 136) (pc := 135) k_Te_joined_135 rfl rfl ?_
      | (with_reducible refine T_icmp_leN (tgt := 143) (pc1 := 139) (pc := 136) k_Te_joined_136 (by decide) (by decide) (by omega) (by omega) (fun hc => ?_) (fun hc => ?_) <;> first | (exfalso; omega) | skip)
      | refine T_icmp_le_t (tgt := 143) (pc := 136) k_Te_joined_136 rfl (by decide) ?_
      | refine T_icmp_le_f (tgt := 143) (pc1 := 139) (pc := 136) k_Te_joined_136 rfl rfl (by decide) ?_
      | refine T_icmp_le (tgt := 143) (pc1 := 139) (pc := 136) k_Te_joined_136 rfl rfl (fun hc => ?_) (fun hc => ?_)
      | refine T_goto (tgt := 144) (pc := 140) k_Te_joined_140 rfl ?_
      | refine T_iload_n (pc1 := 147) (pc := 146) k_Te_joined_146 rfl rfl ?_
      | with_reducible refine T_iaddN (pc1 := 148) (pc := 147) k_Te_joined_147 (by decide) ?_
      | refine T_iadd (pc1 := 148) (pc := 147) k_Te_joined_147 rfl ?_
      | refine T_retI (pc := 148) k_Te_joined_148 rfl (by first | rfl | decide | assumption) ?_
      | refine T_iload_n (pc1 := 151) (pc := 150) k_Te_joined_150 rfl rfl ?_
      | with_reducible refine T_isubN (pc1 := 152) (pc := 151) k_Te_joined_151 (by decide) (by omega) ?_
      | refine T_isub (pc1 := 152) (pc := 151) k_Te_joined_151 rfl ?_
      | refine T_retI (pc := 152) k_Te_joined_152 rfl (by first | rfl | decide | assumption) ?_
      | refine T_iload_n (pc1 := 155) (pc := 154) k_Te_joined_154 rfl rfl ?_
      | with_reducible refine T_imulN (pc1 := 156) (pc := 155) k_Te_joined_155 (by decide) ?_
      | refine T_imul (pc1 := 156) (pc := 155) k_Te_joined_155 rfl ?_
      | refine T_retI (pc := 156) k_Te_joined_156 rfl (by first | rfl | decide | assumption) ?_
      | (with_reducible refine T_if_neN (tgt := 165) (pc1 := 161) (pc := 158) k_Te_joined_158 (by decide) (by decide) (by omega) (fun hc => ?_) (fun hc => ?_) <;> first | (exfalso; omega) | skip)
      | refine T_if_ne_t (tgt := 165) (pc := 158) k_Te_joined_158 rfl (by decide) ?_
      | refine T_if_ne_f (tgt := 165) (pc1 := 161) (pc := 158) k_Te_joined_158 rfl rfl (by decide) ?_
      | refine T_if_ne (tgt := 165) (pc1 := 161) (pc := 158) k_Te_joined_158 rfl rfl (fun hc => ?_) (fun hc => ?_)
      | refine T_goto (tgt := 168) (pc := 162) k_Te_joined_162 rfl ?_
      | refine T_iload_n (pc1 := 167) (pc := 166) k_Te_joined_166 rfl rfl ?_
      | refine T_idiv (pc1 := 168) (pc := 167) k_Te_joined_167 rfl (by first | assumption | decide) ?_
      | refine T_retI (pc := 170) k_Te_joined_170 rfl (by first | rfl | decide | assumption) ?_)
    exact kk _ rfl
  rw [if_neg c7]
  rw [if_neg c7] at kk
  repeat' (first
    | (refine T_iload_n (pc1 := 1) (pc := 0) k_Te_joined_0 rfl rfl ?_ <;> try ((first | (with_reducible refine swN_Te_joined_1 (by omega) (fun hc => ?_) (fun hc => ?_) (fun hc => ?_) (fun hc => ?_) (fun hc => ?_) (fun hc => ?_) (fun hc => ?_) (fun hc => ?_) (fun hc => ?_) (fun hc => ?_) <;> first | (exfalso; omega) | skip) | refine sw_Te_joined_1 (fun hc => ?_) (fun hc => ?_) (fun hc => ?_) (fun hc => ?_) (fun hc => ?_) (fun hc => ?_) (fun hc => ?_) (fun hc => ?_) (fun hc => ?_) (fun hc => ?_))))
    | (refine T_iload_n (pc1 := 85) (pc := 84) k_Te_joined_84 rfl rfl ?_ <;> try ((first | (with_reducible refine T_if_neN (tgt := 92) (pc1 := 88) (pc := 85) k_Te_joined_85 (by decide) (by decide) (by omega) (fun hc => ?_) (fun hc => ?_) <;> first | (exfalso; omega) | skip) | refine T_if_ne_t (tgt := 92) (pc := 85) k_Te_joined_85 rfl (by decide) ?_ | refine T_if_ne_f (tgt := 92) (pc1 := 88) (pc := 85) k_Te_joined_85 rfl rfl (by decide) ?_ | refine T_if_ne (tgt := 92) (pc1 := 88) (pc := 85) k_Te_joined_85 rfl rfl (fun hc => ?_) (fun hc => ?_))))
    | (refine T_iload_n (pc1 := 89) (pc := 88) k_Te_joined_88 rfl rfl ?_ <;> try ((first | (with_reducible refine T_if_eqN (tgt := 96) (pc1 := 92) (pc := 89) k_Te_joined_89 (by decide) (by decide) (by omega) (fun hc => ?_) (fun hc => ?_) <;> first | (exfalso; omega) | skip) | refine T_if_eq_t (tgt := 96) (pc := 89) k_Te_joined_89 rfl (by decide) ?_ | refine T_if_eq_f (tgt := 96) (pc1 := 92) (pc := 89) k_Te_joined_89 rfl rfl (by decide) ?_ | refine T_if_eq (tgt := 96) (pc1 := 92) (pc := 89) k_Te_joined_89 rfl rfl (fun hc => ?_) (fun hc => ?_))))
    | (refine T_iconst (v := (nI 1)) (pc1 := 93) (pc := 92) k_Te_joined_92 rfl (by decide) ?_ <;> try (refine T_goto (tgt := 97) (pc := 93) k_Te_joined_93 rfl ?_))
    | (refine T_iconst (v := (nI 0)) (pc1 := 97) (pc := 96) k_Te_joined_96 rfl (by decide) ?_)
    | (refine T_retI (pc := 97) k_Te_joined_97 rfl (by first | rfl | decide | assumption) ?_)
    | (refine T_iload_n (pc1 := 99) (pc := 98) k_Te_joined_98 rfl rfl ?_ <;> try ((first | (with_reducible refine T_if_eqN (tgt := 110) (pc1 := 102) (pc := 99) k_Te_joined_99 (by decide) (by decide) (by omega) (fun hc => ?_) (fun hc => ?_) <;> first | (exfalso; omega) | skip) | refine T_if_eq_t (tgt := 110) (pc := 99) k_Te_joined_99 rfl (by decide) ?_ | refine T_if_eq_f (tgt := 110) (pc1 := 102) (pc := 99) k_Te_joined_99 rfl rfl (by decide) ?_ | refine T_if_eq (tgt := 110) (pc1 := 102) (pc := 99) k_Te_joined_99 rfl rfl (fun hc => ?_) (fun hc => ?_))))
    | (refine T_iload_n (pc1 := 103) (pc := 102) k_Te_joined_102 rfl rfl ?_ <;> try ((first | (with_reducible refine T_if_eqN (tgt := 110) (pc1 := 106) (pc := 103) k_Te_joined_103 (by decide) (by decide) (by omega) (fun hc => ?_) (fun hc => ?_) <;> first | (exfalso; omega) | skip) | refine T_if_eq_t (tgt := 110) (pc := 103) k_Te_joined_103 rfl (by decide) ?_ | refine T_if_eq_f (tgt := 110) (pc1 := 106) (pc := 103) k_Te_joined_103 rfl rfl (by decide) ?_ | refine T_if_eq (tgt := 110) (pc1 := 106) (pc := 103) k_Te_joined_103 rfl rfl (fun hc => ?_) (fun hc => ?_))))
    | (refine T_iconst (v := (nI 1)) (pc1 := 107) (pc := 106) k_Te_joined_106 rfl (by decide) ?_ <;> try (refine T_goto (tgt := 111) (pc := 107) k_Te_joined_107 rfl ?_))
    | (refine T_iconst (v := (nI 0)) (pc1 := 111) (pc := 110) k_Te_joined_110 rfl (by decide) ?_)
    | (refine T_retI (pc := 111) k_Te_joined_111 rfl (by first | rfl | decide | assumption) ?_)
    | (refine T_iload_n (pc1 := 113) (pc := 112) k_Te_joined_112 rfl rfl ?_ <;> try (refine T_iload_n (pc1 := 114) (pc := 113) k_Te_joined_113 rfl rfl ?_ <;> try ((first | (with_reducible refine T_icmp_geN (tgt := 121) (pc1 := 117) (pc := 114) k_Te_joined_114 (by decide) (by decide) (by omega) (by omega) (fun hc => ?_) (fun hc => ?_) <;> first | (exfalso; omega) | skip) | refine T_icmp_ge_t (tgt := 121) (pc := 114) k_Te_joined_114 rfl (by decide) ?_ | refine T_icmp_ge_f (tgt := 121) (pc1 := 117) (pc := 114) k_Te_joined_114 rfl rfl (by decide) ?_ | refine T_icmp_ge (tgt := 121) (pc1 := 117) (pc := 114) k_Te_joined_114 rfl rfl (fun hc => ?_) (fun hc => ?_)))))
    | (refine T_iconst (v := (nI 1)) (pc1 := 118) (pc := 117) k_Te_joined_117 rfl (by decide) ?_ <;> try (refine T_goto (tgt := 122) (pc := 118) k_Te_joined_118 rfl ?_))
    | (refine T_iconst (v := (nI 0)) (pc1 := 122) (pc := 121) k_Te_joined_121 rfl (by decide) ?_)
    | (refine T_retI (pc := 122) k_Te_joined_122 rfl (by first | rfl | decide | assumption) ?_)
    | (refine T_iload_n (pc1 := 124) (pc := 123) k_Te_joined_123 rfl rfl ?_ <;> try (refine T_iload_n (pc1 := 125) (pc := 124) k_Te_joined_124 rfl rfl ?_))
    | ((first | (with_reducible refine T_icmp_neN (tgt := 132) (pc1 := 128) (pc := 125) k_Te_joined_125 (by decide) (by decide) (by omega) (by omega) (fun hc => ?_) (fun hc => ?_) <;> first | (exfalso; omega) | skip) | refine T_icmp_ne_t (tgt := 132) (pc := 125) k_Te_joined_125 rfl (by decide) ?_ | refine T_icmp_ne_f (tgt := 132) (pc1 := 128) (pc := 125) k_Te_joined_125 rfl rfl (by decide) ?_ | refine T_icmp_ne (tgt := 132) (pc1 := 128) (pc := 125) k_Te_joined_125 rfl rfl (fun hc => ?_) (fun hc => ?_)))
    | (refine T_iconst (v := (nI 1)) (pc1 := 129) (pc := 128) k_Te_joined_128 rfl (by decide) ?_ <;> try (refine T_goto (tgt := 133) (pc := 129) k_Te_joined_129 rfl ?_))
    | (refine T_iconst (v := (nI 0)) (pc1 := 133) (pc := 132) k_Te_joined_132 rfl (by decide) ?_)
    | (refine T_retI (pc := 133) k_Te_joined_133 rfl (by first | rfl | decide | assumption) ?_)
    | (refine T_iload_n (pc1 := 135) (pc := 134) k_Te_joined_134 rfl rfl ?_ <;> try (refine T_iload_n (pc1 := 136) (pc := 135) k_Te_joined_135 rfl rfl ?_ <;> try ((first | (with_reducible refine T_icmp_leN (tgt := 143) (pc1 := 139) (pc := 136) k_Te_joined_136 (by decide) (by decide) (by omega) (by omega) (fun hc => ?_) (fun hc => ?_) <;> first | (exfalso; omega) | skip) | refine T_icmp_le_t (tgt := 143) (pc := 136) k_Te_joined_136 rfl (by decide) ?_ | refine T_icmp_le_f (tgt := 143) (pc1 := 139) (pc := 136) k_Te_joined_136 rfl rfl (by decide) ?_ | refine T_icmp_le (tgt := 143) (pc1 := 139) (pc := 136) k_Te_joined_136 rfl rfl (fun hc => ?_) (fun hc => ?_)))))
    | (refine T_iconst (v := (nI 1)) (pc1 := 140) (pc := 139) k_Te_joined_139 rfl (by decide) ?_ <;> try (refine T_goto (tgt := 144) (pc := 140) k_Te_joined_140 rfl ?_))
    | (refine T_iconst (v := (nI 0)) (pc1 := 144) (pc := 143) k_Te_joined_143 rfl (by decide) ?_)
    | (refine T_retI (pc := 144) k_Te_joined_144 rfl (by first | rfl | decide | assumption) ?_)
    | (refine T_iload_n (pc1 := 146) (pc := 145) k_Te_joined_145 rfl rfl ?_ <;> try (refine T_iload_n (pc1 := 147) (pc := 146) k_Te_joined_146 rfl rfl ?_ <;> try ((first | with_reducible refine T_iaddN (pc1 := 148) (pc := 147) k_Te_joined_147 (by decide) ?_ | refine T_iadd (pc1 := 148) (pc := 147) k_Te_joined_147 rfl ?_) <;> try (refine T_retI (pc := 148) k_Te_joined_148 rfl (by first | rfl | decide | assumption) ?_))))
    | (refine T_iload_n (pc1 := 150) (pc := 149) k_Te_joined_149 rfl rfl ?_ <;> try (refine T_iload_n (pc1 := 151) (pc := 150) k_Te_joined_150 rfl rfl ?_ <;> try ((first | with_reducible refine T_isubN (pc1 := 152) (pc := 151) k_Te_joined_151 (by decide) (by omega) ?_ | refine T_isub (pc1 := 152) (pc := 151) k_Te_joined_151 rfl ?_) <;> try (refine T_retI (pc := 152) k_Te_joined_152 rfl (by first | rfl | decide | assumption) ?_))))
    | (refine T_iload_n (pc1 := 154) (pc := 153) k_Te_joined_153 rfl rfl ?_ <;> try (refine T_iload_n (pc1 := 155) (pc := 154) k_Te_joined_154 rfl rfl ?_ <;> try ((first | with_reducible refine T_imulN (pc1 := 156) (pc := 155) k_Te_joined_155 (by decide) ?_ | refine T_imul (pc1 := 156) (pc := 155) k_Te_joined_155 rfl ?_) <;> try (refine T_retI (pc := 156) k_Te_joined_156 rfl (by first | rfl | decide | assumption) ?_))))
    | (refine T_iload_n (pc1 := 158) (pc := 157) k_Te_joined_157 rfl rfl ?_ <;> try ((first | (with_reducible refine T_if_neN (tgt := 165) (pc1 := 161) (pc := 158) k_Te_joined_158 (by decide) (by decide) (by omega) (fun hc => ?_) (fun hc => ?_) <;> first | (exfalso; omega) | skip) | refine T_if_ne_t (tgt := 165) (pc := 158) k_Te_joined_158 rfl (by decide) ?_ | refine T_if_ne_f (tgt := 165) (pc1 := 161) (pc := 158) k_Te_joined_158 rfl rfl (by decide) ?_ | refine T_if_ne (tgt := 165) (pc1 := 161) (pc := 158) k_Te_joined_158 rfl rfl (fun hc => ?_) (fun hc => ?_))))
    | (refine T_iconst (v := (nI 0)) (pc1 := 162) (pc := 161) k_Te_joined_161 rfl (by decide) ?_ <;> try (refine T_goto (tgt := 168) (pc := 162) k_Te_joined_162 rfl ?_))
    | (refine T_iload_n (pc1 := 166) (pc := 165) k_Te_joined_165 rfl rfl ?_ <;> try (refine T_iload_n (pc1 := 167) (pc := 166) k_Te_joined_166 rfl rfl ?_ <;> try (refine T_idiv (pc1 := 168) (pc := 167) k_Te_joined_167 rfl (by first | assumption | decide) ?_)))
    | (refine T_retI (pc := 168) k_Te_joined_168 rfl (by first | rfl | decide | assumption) ?_)
    | (refine T_iconst (v := (nI 0)) (pc1 := 170) (pc := 169) k_Te_joined_169 rfl (by decide) ?_ <;> try (refine T_retI (pc := 170) k_Te_joined_170 rfl (by first | rfl | decide | assumption) ?_))
    | (with_reducible refine swN_Te_joined_1 (by omega) (fun hc => ?_) (fun hc => ?_) (fun hc => ?_) (fun hc => ?_) (fun hc => ?_) (fun hc => ?_) (fun hc => ?_) (fun hc => ?_) (fun hc => ?_) (fun hc => ?_) <;> first | (exfalso; omega) | skip)
    | refine sw_Te_joined_1 (fun hc => ?_) (fun hc => ?_) (fun hc => ?_) (fun hc => ?_) (fun hc => ?_) (fun hc => ?_) (fun hc => ?_) (fun hc => ?_) (fun hc => ?_) (fun hc => ?_)
    | (with_reducible refine T_if_neN (tgt := 92) (pc1 := 88) (pc := 85) k_Te_joined_85 (by decide) (by decide) (by omega) (fun hc => ?_) (fun hc => ?_) <;> first | (exfalso; omega) | skip)
    | refine T_if_ne_t (tgt := 92) (pc := 85) k_Te_joined_85 rfl (by decide) ?_
    | refine T_if_ne_f (tgt := 92) (pc1 := 88) (pc := 85) k_Te_joined_85 rfl rfl (by decide) ?_
    | refine T_if_ne (tgt := 92) (pc1 := 88) (pc := 85) k_Te_joined_85 rfl rfl (fun hc => ?_) (fun hc => ?_)
    | (with_reducible refine T_if_eqN (tgt := 96) (pc1 := 92) (pc := 89) k_Te_joined_89 (by decide) (by decide) (by omega) (fun hc => ?_) (fun hc => ?_) <;> first | (exfalso; omega) | skip)
    | refine T_if_eq_t (tgt := 96) (pc := 89) k_Te_joined_89 rfl (by decide) ?_
    | refine T_if_eq_f (tgt := 96) (pc1 := 92) (pc := 89) k_Te_joined_89 rfl rfl (by decide) ?_
    | refine T_if_eq (tgt := 96) (pc1 := 92) (pc := 89) k_Te_joined_89 rfl rfl (fun hc => ?_) (fun hc => ?_)
    | refine T_goto (tgt := 97) (pc := 93) k_Te_joined_93 rfl ?_
    | (with_reducible refine T_if_eqN (tgt := 110) (pc1 := 102) (pc := 99) k_Te_joined_99 (by decide) (by decide) (by omega) (fun hc => ?_) (fun hc => ?_) <;> first | (exfalso; omega) | skip)
    | refine T_if_eq_t (tgt := 110) (pc := 99) k_Te_joined_99 rfl (by decide) ?_
    | refine T_if_eq_f (tgt := 110) (pc1 := 102) (pc := 99) k_Te_joined_99 rfl rfl (by decide) ?_
    | refine T_if_eq (tgt := 110) (pc1 := 102) (pc := 99) k_Te_joined_99 rfl rfl (fun hc => ?_) (fun hc => ?_)
    | (with_reducible refine T_if_eqN (tgt := 110) (pc1 := 106) (pc := 103) k_Te_joined_103 (by decide) (by decide) (by omega) (fun hc => ?_) (fun hc => ?_) <;> first | (exfalso; omega) | skip)
    | refine T_if_eq_t (tgt := 110) (pc := 103) k_Te_joined_103 rfl (by decide) ?_
    | refine T_if_eq_f (tgt := 110) (pc1 := 106) (pc := 103) k_Te_joined_103 rfl rfl (by decide) ?_
    | refine T_if_eq (tgt := 110) (pc1 := 106) (pc := 103) k_Te_joined_103 rfl rfl (fun hc => ?_) (fun hc => ?_)
    | refine T_goto (tgt := 111) (pc := 107) k_Te_joined_107 rfl ?_
    | refine T_iload_n (pc1 := 114) (pc := 113) k_Te_joined_113 rfl rfl ?_
    | (with_reducible refine T_icmp_geN (tgt := 121) (pc1 := 117) (pc := 114) k_Te_joined_114 (by decide) (by decide) (by omega) (by omega) (fun hc => ?_) (fun hc => ?_) <;> first | (exfalso; omega) | skip)
    | refine T_icmp_ge_t (tgt := 121) (pc := 114) k_Te_joined_114 rfl (by decide) ?_
    | refine T_icmp_ge_f (tgt := 121) (pc1 := 117) (pc := 114) k_Te_joined_114 rfl rfl (by decide) ?_
    | refine T_icmp_ge (tgt := 121) (pc1 := 117) (pc := 114) k_Te_joined_114 rfl rfl (fun hc => ?_) (fun hc => ?_)
    | refine T_goto (tgt := 122) (pc := 118) k_Te_joined_118 rfl ?_
    | refine T_iload_n (pc1 := 125) (pc := 124) k_Te_joined_124 rfl rfl ?_
    | refine T_goto (tgt := 133) (pc := 129) k_Te_joined_129 rfl ?_
    | refine T_iload_n (pc1 := 136) (pc := 135) k_Te_joined_135 rfl rfl ?_
    | (with_reducible refine T_icmp_leN (tgt := 143) (pc1 := 139) (pc := 136) k_Te_joined_136 (by decide) (by decide) (by omega) (by omega) (fun hc => ?_) (fun hc => ?_) <;> first | (exfalso; omega) | skip)
    | refine T_icmp_le_t (tgt := 143) (pc := 136) k_Te_joined_136 rfl (by decide) ?_
    | refine T_icmp_le_f (tgt := 143) (pc1 := 139) (pc := 136) k_Te_joined_136 rfl rfl (by decide) ?_
    | refine T_icmp_le (tgt := 143) (pc1 := 139) (pc := 136) k_Te_joined_136 rfl rfl (fun hc => ?_) (fun hc => ?_)
    | refine T_goto (tgt := 144) (pc := 140) k_Te_joined_140 rfl ?_
    | refine T_iload_n (pc1 := 147) (pc := 146) k_Te_joined_146 rfl rfl ?_
    | with_reducible refine T_iaddN (pc1 := 148) (pc := 147) k_Te_joined_147 (by decide) ?_
    | refine T_iadd (pc1 := 148) (pc := 147) k_Te_joined_147 rfl ?_
    | refine T_retI (pc := 148) k_Te_joined_148 rfl (by first | rfl | decide | assumption) ?_
    | refine T_iload_n (pc1 := 151) (pc := 150) k_Te_joined_150 rfl rfl ?_
    | with_reducible refine T_isubN (pc1 := 152) (pc := 151) k_Te_joined_151 (by decide) (by omega) ?_
    | refine T_isub (pc1 := 152) (pc := 151) k_Te_joined_151 rfl ?_
    | refine T_retI (pc := 152) k_Te_joined_152 rfl (by first | rfl | decide | assumption) ?_
    | refine T_iload_n (pc1 := 155) (pc := 154) k_Te_joined_154 rfl rfl ?_
    | with_reducible refine T_imulN (pc1 := 156) (pc := 155) k_Te_joined_155 (by decide) ?_
    | refine T_imul (pc1 := 156) (pc := 155) k_Te_joined_155 rfl ?_
    | refine T_retI (pc := 156) k_Te_joined_156 rfl (by first | rfl | decide | assumption) ?_
    | (with_reducible refine T_if_neN (tgt := 165) (pc1 := 161) (pc := 158) k_Te_joined_158 (by decide) (by decide) (by omega) (fun hc => ?_) (fun hc => ?_) <;> first | (exfalso; omega) | skip)
    | refine T_if_ne_t (tgt := 165) (pc := 158) k_Te_joined_158 rfl (by decide) ?_
    | refine T_if_ne_f (tgt := 165) (pc1 := 161) (pc := 158) k_Te_joined_158 rfl rfl (by decide) ?_
    | refine T_if_ne (tgt := 165) (pc1 := 161) (pc := 158) k_Te_joined_158 rfl rfl (fun hc => ?_) (fun hc => ?_)
    | refine T_goto (tgt := 168) (pc := 162) k_Te_joined_162 rfl ?_
    | refine T_iload_n (pc1 := 167) (pc := 166) k_Te_joined_166 rfl rfl ?_
    | refine T_idiv (pc1 := 168) (pc := 167) k_Te_joined_167 rfl (by first | assumption | decide) ?_
    | refine T_retI (pc := 170) k_Te_joined_170 rfl (by first | rfl | decide | assumption) ?_)
  · exact kk _ (by rw [if_neg (by assumption)])
  · exact kk _ (by rw [if_pos (Decidable.not_not.mp (by assumption))])
def tpV (p : Nat) : Int32 := if p = 0 then -1 else nI (p - 1)
theorem tpV_1 (p : Nat) : tpV p + nI 1 = nI p := by
  unfold tpV
  by_cases h : p = 0
  · subst h; rfl
  · rw [if_neg h, nI_add, show p - 1 + 1 = p by omega]
theorem tpV_s (p : Nat) : tpV (p + 1) = nI p := by rw [tpV, if_neg (by omega), Nat.add_sub_cancel]
theorem tpm1 (p : Nat) : nI (p + 1) + (-1 : Int32) = nI p := by rw [pk_m1]
theorem nm3_op {c x y w : Int32} (hc : ¬ (0 : Int32) ≤ c) (h10 : (-10 : Int32) ≤ c) {nn : Nat} (hr : rg nn (c - -10)) (h3 : nn ≤ 3) : (-1000 : Int32) < trc c ∧ opV (trc c) x y w = nm3 x y w (c - -10).toNatClampNeg := by
  obtain ⟨q, hq, e⟩ := rg_of hr (by omega)
  have et : trc c = -1 - nI q := by rw [trc, if_neg hc, if_pos h10, e]
  rw [et, e, nI_clamp (by omega)]
  obtain rfl | rfl | rfl : q = 0 ∨ q = 1 ∨ q = 2 := by omega
  · exact ⟨by decide, by unfold opV; rw [if_pos (by decide)]; rfl⟩
  · exact ⟨by decide, by unfold opV; rw [if_neg (by decide), if_pos (by decide)]; rfl⟩
  · exact ⟨by decide, by unfold opV; rw [if_neg (by decide), if_neg (by decide), if_pos (by decide)]; rfl⟩
set_option maxHeartbeats 4000000 in
theorem c_Te_value {C : Row} {x y w : Int32} {q m lv nn : Nat} (hA : isAg g q 6 4) (hR2 : gR g q 2 = some (q + 1)) (hR3 : gR g q 3 = some (q + 2)) (hC : isAg g (q + 1) 100 m) (hS : isAg g (q + 2) 100 lv) (hCv : ∀ k, k < m → I (q + 1) k = trc (C k)) (h96 : m ≤ 96) (hlv : lv ≤ 96) (hnn : nn ≤ 3) (ok : okc C m lv nn) (kk : ∀ J, eqx [q + 2] I J → K (some (.int (pl C (nm3 x y w) m 0))) g J) : Cl 2 M_Te_value [.ref q, .int x, .int y, .int w] g I K := by
  show Rl 2 M_Te_value 0 [some (.ref q), some (.int x), some (.int y), some (.int w), none, none, none] [] g I K
  have lv1 : 1 ≤ lv := by
    have := dp_le ok m (Nat.le_refl _)
    rw [ok.2] at this
    exact this
  have loop : ∀ r k o6 (J : IM), k + r = m → eqx [q + 2] I J → (∀ j, j < dp C k → J (q + 2) j = pl C (nm3 x y w) k j) → Rl 2 M_Te_value 6 [some (.ref q), some (.int x), some (.int y), some (.int w), some (.int (tpV (dp C k))), some (.int (nI k)), o6] [] g J K := by
    intro r
    induction r with
    | zero =>
      intro k o6 J hk hJ hp
      have hk : k = m := by omega
      subst hk
      have h0 : J (q + 2) 0 = pl C (nm3 x y w) k 0 := hp 0 (by rw [ok.2]; decide)
      repeat' (first
        | (refine T_iload (pc1 := 8) (pc := 6) k_Te_value_6 rfl rfl ?_ <;> try ((first | refine T_aload_n (pc1 := 9) (pc := 8) k_Te_value_8 rfl rfl ?_ | refine T_aload_nN (pc1 := 9) (pc := 8) k_Te_value_8 rfl rfl ?_) <;> try (refine T_getR (pc1 := 12) (pc := 9) k_Te_value_9 rfl f_Te_18 rfl (by first | assumption | exact ga G (by decide) rfl) (by first | assumption | exact gr G (by decide) rfl) ?_ <;> try ((first | refine T_alenN (pc1 := 13) (pc := 12) k_Te_value_12 rfl (by first | assumption | exact ga G (by decide) rfl) ?_ | refine T_sclen (pc1 := 13) (pc := 12) k_Te_value_12 rfl ?_) <;> try ((first | (with_reducible refine T_icmp_geN (tgt := 154) (pc1 := 16) (pc := 13) k_Te_value_13 (by decide) (by decide) (by omega) (by omega) (fun hc => ?_) (fun hc => ?_) <;> first | (exfalso; omega) | skip) | refine T_icmp_ge_t (tgt := 154) (pc := 13) k_Te_value_13 rfl (by decide) ?_ | refine T_icmp_ge_f (tgt := 154) (pc1 := 16) (pc := 13) k_Te_value_13 rfl rfl (by decide) ?_ | refine T_icmp_ge (tgt := 154) (pc1 := 16) (pc := 13) k_Te_value_13 rfl rfl (fun hc => ?_) (fun hc => ?_)))))))
        | ((first | refine T_aload_n (pc1 := 155) (pc := 154) k_Te_value_154 rfl rfl ?_ | refine T_aload_nN (pc1 := 155) (pc := 154) k_Te_value_154 rfl rfl ?_) <;> try (refine T_getR (pc1 := 158) (pc := 155) k_Te_value_155 rfl f_Te_28 rfl (by first | assumption | exact ga G (by decide) rfl) (by first | assumption | exact gr G (by decide) rfl) ?_ <;> try (refine T_iconst (v := (nI 0)) (pc1 := 159) (pc := 158) k_Te_value_158 rfl (by decide) ?_ <;> try ((first | refine T_ialdN (pc1 := 160) (pc := 159) k_Te_value_159 rfl (by first | assumption | exact ga G (by decide) rfl) (by omega) (by omega) (by first | assumption | (simp (disch := omega) only [pI_eq, pI_row, pI_col, va_up_self, va_up_ne, ne_eq, not_false_eq_true] <;> rfl) | rfl) ?_ | refine T_iald (pc1 := 160) (pc := 159) k_Te_value_159 rfl (by first | assumption | exact ga G (by decide) rfl) (by assumption) ?_) <;> try (refine T_retI (pc := 160) k_Te_value_160 rfl (by first | rfl | decide | assumption) ?_)))))
        | refine T_aload_n (pc1 := 9) (pc := 8) k_Te_value_8 rfl rfl ?_
        | refine T_aload_nN (pc1 := 9) (pc := 8) k_Te_value_8 rfl rfl ?_
        | refine T_getR (pc1 := 12) (pc := 9) k_Te_value_9 rfl f_Te_18 rfl (by first | assumption | exact ga G (by decide) rfl) (by first | assumption | exact gr G (by decide) rfl) ?_
        | refine T_alenN (pc1 := 13) (pc := 12) k_Te_value_12 rfl (by first | assumption | exact ga G (by decide) rfl) ?_
        | refine T_sclen (pc1 := 13) (pc := 12) k_Te_value_12 rfl ?_
        | (with_reducible refine T_icmp_geN (tgt := 154) (pc1 := 16) (pc := 13) k_Te_value_13 (by decide) (by decide) (by omega) (by omega) (fun hc => ?_) (fun hc => ?_) <;> first | (exfalso; omega) | skip)
        | refine T_icmp_ge_t (tgt := 154) (pc := 13) k_Te_value_13 rfl (by decide) ?_
        | refine T_icmp_ge_f (tgt := 154) (pc1 := 16) (pc := 13) k_Te_value_13 rfl rfl (by decide) ?_
        | refine T_icmp_ge (tgt := 154) (pc1 := 16) (pc := 13) k_Te_value_13 rfl rfl (fun hc => ?_) (fun hc => ?_)
        | refine T_getR (pc1 := 158) (pc := 155) k_Te_value_155 rfl f_Te_28 rfl (by first | assumption | exact ga G (by decide) rfl) (by first | assumption | exact gr G (by decide) rfl) ?_
        | refine T_iconst (v := (nI 0)) (pc1 := 159) (pc := 158) k_Te_value_158 rfl (by decide) ?_
        | refine T_ialdN (pc1 := 160) (pc := 159) k_Te_value_159 rfl (by first | assumption | exact ga G (by decide) rfl) (by omega) (by omega) (by first | assumption | (simp (disch := omega) only [pI_eq, pI_row, pI_col, va_up_self, va_up_ne, ne_eq, not_false_eq_true] <;> rfl) | rfl) ?_
        | refine T_iald (pc1 := 160) (pc := 159) k_Te_value_159 rfl (by first | assumption | exact ga G (by decide) rfl) (by assumption) ?_
        | refine T_retI (pc := 160) k_Te_value_160 rfl (by first | rfl | decide | assumption) ?_)
      exact kk J hJ
    | succ r ih =>
      intro k o6 J hk hJ hp
      have hc1 : J (q + 1) k = trc (C k) := by rw [hJ (q + 1) (by simp)]; exact hCv k (by omega)
      have hd := dp_le ok k (by omega)
      obtain ⟨o1, o2, o3⟩ := ok.1 k (by omega)
      have ih := ih (k + 1)
      rw [dp] at ih
      have back : ∀ p2 o6 (J2 : IM), p2 = (if (-10 : Int32) ≤ C k then dp C k + 1 else if C k = -29 then dp C k else dp C k - 1) → eqx [q + 2] I J2 → (∀ j, j < p2 → J2 (q + 2) j = pl C (nm3 x y w) (k + 1) j) → Rl 2 M_Te_value 148 [some (.ref q), some (.int x), some (.int y), some (.int w), some (.int (tpV p2)), some (.int (nI k)), o6] [] g J2 K := by
        intro p2 o6 J2 hp2 hJ2 hpl
        subst hp2
        repeat' (first
          | ((first | refine T_iincN (b := 1) (pc1 := 151) (pc := 148) k_Te_value_148 rfl rfl (by decide) ?_ | refine T_iinc (v := (nI 1)) (pc1 := 151) (pc := 148) k_Te_value_148 rfl rfl (by decide) ?_) <;> try (refine T_goto (tgt := 6) (pc := 151) k_Te_value_151 rfl ?_))
          | refine T_goto (tgt := 6) (pc := 151) k_Te_value_151 rfl ?_)
        exact ih _ J2 (by omega) hJ2 hpl
      clear ih
      rw [pl] at back
      generalize hx : C k = c at *
      generalize hdd : dp C k = p at *
      refine T_iload (pc1 := 8) (pc := 6) k_Te_value_6 rfl rfl ?_
      repeat' (first
        | ((first | refine T_aload_n (pc1 := 9) (pc := 8) k_Te_value_8 rfl rfl ?_ | refine T_aload_nN (pc1 := 9) (pc := 8) k_Te_value_8 rfl rfl ?_) <;> try (refine T_getR (pc1 := 12) (pc := 9) k_Te_value_9 rfl f_Te_18 rfl (by first | assumption | exact ga G (by decide) rfl) (by first | assumption | exact gr G (by decide) rfl) ?_ <;> try ((first | refine T_alenN (pc1 := 13) (pc := 12) k_Te_value_12 rfl (by first | assumption | exact ga G (by decide) rfl) ?_ | refine T_sclen (pc1 := 13) (pc := 12) k_Te_value_12 rfl ?_) <;> try ((first | (with_reducible refine T_icmp_geN (tgt := 154) (pc1 := 16) (pc := 13) k_Te_value_13 (by decide) (by decide) (by omega) (by omega) (fun hc => ?_) (fun hc => ?_) <;> first | (exfalso; omega) | skip) | refine T_icmp_ge_t (tgt := 154) (pc := 13) k_Te_value_13 rfl (by decide) ?_ | refine T_icmp_ge_f (tgt := 154) (pc1 := 16) (pc := 13) k_Te_value_13 rfl rfl (by decide) ?_ | refine T_icmp_ge (tgt := 154) (pc1 := 16) (pc := 13) k_Te_value_13 rfl rfl (fun hc => ?_) (fun hc => ?_))))))
        | ((first | refine T_aload_n (pc1 := 17) (pc := 16) k_Te_value_16 rfl rfl ?_ | refine T_aload_nN (pc1 := 17) (pc := 16) k_Te_value_16 rfl rfl ?_) <;> try (refine T_getR (pc1 := 20) (pc := 17) k_Te_value_17 rfl f_Te_18 rfl (by first | assumption | exact ga G (by decide) rfl) (by first | assumption | exact gr G (by decide) rfl) ?_ <;> try (refine T_iload (pc1 := 22) (pc := 20) k_Te_value_20 rfl rfl ?_ <;> try ((first | refine T_ialdN (pc1 := 23) (pc := 22) k_Te_value_22 rfl (by first | assumption | exact ga G (by decide) rfl) (by omega) (by omega) (by first | assumption | (simp (disch := omega) only [pI_eq, pI_row, pI_col, va_up_self, va_up_ne, ne_eq, not_false_eq_true] <;> rfl) | rfl) ?_ | refine T_iald (pc1 := 23) (pc := 22) k_Te_value_22 rfl (by first | assumption | exact ga G (by decide) rfl) (by assumption) ?_) <;> try (refine T_istore (pc1 := 25) (pc := 23) k_Te_value_23 rfl (Nat.le_of_ble_eq_true rfl) ?_)))))
        | refine T_getR (pc1 := 12) (pc := 9) k_Te_value_9 rfl f_Te_18 rfl (by first | assumption | exact ga G (by decide) rfl) (by first | assumption | exact gr G (by decide) rfl) ?_
        | refine T_alenN (pc1 := 13) (pc := 12) k_Te_value_12 rfl (by first | assumption | exact ga G (by decide) rfl) ?_
        | refine T_sclen (pc1 := 13) (pc := 12) k_Te_value_12 rfl ?_
        | (with_reducible refine T_icmp_geN (tgt := 154) (pc1 := 16) (pc := 13) k_Te_value_13 (by decide) (by decide) (by omega) (by omega) (fun hc => ?_) (fun hc => ?_) <;> first | (exfalso; omega) | skip)
        | refine T_icmp_ge_t (tgt := 154) (pc := 13) k_Te_value_13 rfl (by decide) ?_
        | refine T_icmp_ge_f (tgt := 154) (pc1 := 16) (pc := 13) k_Te_value_13 rfl rfl (by decide) ?_
        | refine T_icmp_ge (tgt := 154) (pc1 := 16) (pc := 13) k_Te_value_13 rfl rfl (fun hc => ?_) (fun hc => ?_)
        | refine T_getR (pc1 := 20) (pc := 17) k_Te_value_17 rfl f_Te_18 rfl (by first | assumption | exact ga G (by decide) rfl) (by first | assumption | exact gr G (by decide) rfl) ?_
        | refine T_iload (pc1 := 22) (pc := 20) k_Te_value_20 rfl rfl ?_
        | refine T_ialdN (pc1 := 23) (pc := 22) k_Te_value_22 rfl (by first | assumption | exact ga G (by decide) rfl) (by omega) (by omega) (by first | assumption | (simp (disch := omega) only [pI_eq, pI_row, pI_col, va_up_self, va_up_ne, ne_eq, not_false_eq_true] <;> rfl) | rfl) ?_
        | refine T_iald (pc1 := 23) (pc := 22) k_Te_value_22 rfl (by first | assumption | exact ga G (by decide) rfl) (by assumption) ?_
        | refine T_istore (pc1 := 25) (pc := 23) k_Te_value_23 rfl (Nat.le_of_ble_eq_true rfl) ?_)
      all_goals try (exfalso; omega)
      have leaf : ∀ v, (-1000 : Int32) < trc c → (-10 : Int32) ≤ c → opV (trc c) x y w = v → (∀ j, j < p + 1 → va_up (J (q + 2)) p v j = (if (0 : Int32) ≤ c then va_up (pl C (nm3 x y w) k) p c else if (-10 : Int32) ≤ c then va_up (pl C (nm3 x y w) k) p (nm3 x y w (c - -10).toNatClampNeg) else if c = -29 then va_up (pl C (nm3 x y w) k) (p - 1) (if pl C (nm3 x y w) k (p - 1) = 0 then nI 1 else nI 0) else va_up (pl C (nm3 x y w) k) (p - 2) (dn c (pl C (nm3 x y w) k (p - 2)) (pl C (nm3 x y w) k (p - 1)))) j) → Rl 2 M_Te_value 25 [some (.ref q), some (.int x), some (.int y), some (.int w), some (.int (tpV p)), some (.int (nI k)), some (.int (trc c))] [] g J K := by
        intro v hlt h10 hv hj
        have hp1 := (o1 h10).1
        refine T_iload (pc1 := 27) (pc := 25) k_Te_value_25 rfl rfl ?_
        refine T_sipush (v := (-1000)) (pc1 := 30) (pc := 27) k_Te_value_27 rfl (by decide) ?_
        refine T_icmp_le_f (tgt := 66) (pc1 := 33) (pc := 30) k_Te_value_30 rfl rfl (fun q => by rw [le_toInt] at q; rw [lt_toInt] at hlt; omega) ?_
        repeat' (first
          | (refine T_iload (pc1 := 35) (pc := 33) k_Te_value_33 rfl rfl ?_ <;> try (refine T_iconst (v := (nI 1)) (pc1 := 36) (pc := 35) k_Te_value_35 rfl (by decide) ?_ <;> try ((refine T_iadd (pc1 := 37) (pc := 36) k_Te_value_36 rfl ?_; rw [tpV_1]) <;> try ((first | refine T_aload_n (pc1 := 38) (pc := 37) k_Te_value_37 rfl rfl ?_ | refine T_aload_nN (pc1 := 38) (pc := 37) k_Te_value_37 rfl rfl ?_) <;> try (refine T_getR (pc1 := 41) (pc := 38) k_Te_value_38 rfl f_Te_28 rfl (by first | assumption | exact ga G (by decide) rfl) (by first | assumption | exact gr G (by decide) rfl) ?_ <;> try ((first | refine T_alenN (pc1 := 42) (pc := 41) k_Te_value_41 rfl (by first | assumption | exact ga G (by decide) rfl) ?_ | refine T_sclen (pc1 := 42) (pc := 41) k_Te_value_41 rfl ?_) <;> try ((first | (with_reducible refine T_icmp_geN (tgt := 148) (pc1 := 45) (pc := 42) k_Te_value_42 (by decide) (by decide) (by omega) (by omega) (fun hc => ?_) (fun hc => ?_) <;> first | (exfalso; omega) | skip) | refine T_icmp_ge_t (tgt := 148) (pc := 42) k_Te_value_42 rfl (by decide) ?_ | refine T_icmp_ge_f (tgt := 148) (pc1 := 45) (pc := 42) k_Te_value_42 rfl rfl (by decide) ?_ | refine T_icmp_ge (tgt := 148) (pc1 := 45) (pc := 42) k_Te_value_42 rfl rfl (fun hc => ?_) (fun hc => ?_)))))))))
          | ((refine T_iinc (v := (nI 1)) (pc1 := 48) (pc := 45) k_Te_value_45 rfl rfl (by decide) ?_; rw [tpV_1]) <;> try ((first | refine T_aload_n (pc1 := 49) (pc := 48) k_Te_value_48 rfl rfl ?_ | refine T_aload_nN (pc1 := 49) (pc := 48) k_Te_value_48 rfl rfl ?_) <;> try (refine T_getR (pc1 := 52) (pc := 49) k_Te_value_49 rfl f_Te_28 rfl (by first | assumption | exact ga G (by decide) rfl) (by first | assumption | exact gr G (by decide) rfl) ?_ <;> try (refine T_iload (pc1 := 54) (pc := 52) k_Te_value_52 rfl rfl ?_ <;> try (refine T_iload (pc1 := 56) (pc := 54) k_Te_value_54 rfl rfl ?_ <;> try (refine T_iload_n (pc1 := 57) (pc := 56) k_Te_value_56 rfl rfl ?_ <;> try (refine T_iload_n (pc1 := 58) (pc := 57) k_Te_value_57 rfl rfl ?_ <;> try (refine T_iload_n (pc1 := 59) (pc := 58) k_Te_value_58 rfl rfl ?_ <;> try ((refine T_cS (As := [_, _, _, _]) (d1 := 1) (pc1 := 62) (pc := 59) k_Te_value_59 rfl (by decide) (Nat.le_of_ble_eq_true rfl) rfl o_Te_operand l_Te_31 rfl (c_Te_operand ?_) <;> try dsimp only [psh]) <;> try (refine T_iastN (pc1 := 63) (pc := 62) k_Te_value_62 rfl (by first | assumption | exact ga G (by decide) rfl) (by omega) (by omega) ?_ <;> try (refine T_goto (tgt := 148) (pc := 63) k_Te_value_63 rfl ?_)))))))))))
          | refine T_iconst (v := (nI 1)) (pc1 := 36) (pc := 35) k_Te_value_35 rfl (by decide) ?_
          | (refine T_iadd (pc1 := 37) (pc := 36) k_Te_value_36 rfl ?_; rw [tpV_1])
          | refine T_aload_n (pc1 := 38) (pc := 37) k_Te_value_37 rfl rfl ?_
          | refine T_aload_nN (pc1 := 38) (pc := 37) k_Te_value_37 rfl rfl ?_
          | refine T_getR (pc1 := 41) (pc := 38) k_Te_value_38 rfl f_Te_28 rfl (by first | assumption | exact ga G (by decide) rfl) (by first | assumption | exact gr G (by decide) rfl) ?_
          | refine T_alenN (pc1 := 42) (pc := 41) k_Te_value_41 rfl (by first | assumption | exact ga G (by decide) rfl) ?_
          | refine T_sclen (pc1 := 42) (pc := 41) k_Te_value_41 rfl ?_
          | (with_reducible refine T_icmp_geN (tgt := 148) (pc1 := 45) (pc := 42) k_Te_value_42 (by decide) (by decide) (by omega) (by omega) (fun hc => ?_) (fun hc => ?_) <;> first | (exfalso; omega) | skip)
          | refine T_icmp_ge_t (tgt := 148) (pc := 42) k_Te_value_42 rfl (by decide) ?_
          | refine T_icmp_ge_f (tgt := 148) (pc1 := 45) (pc := 42) k_Te_value_42 rfl rfl (by decide) ?_
          | refine T_icmp_ge (tgt := 148) (pc1 := 45) (pc := 42) k_Te_value_42 rfl rfl (fun hc => ?_) (fun hc => ?_)
          | refine T_aload_n (pc1 := 49) (pc := 48) k_Te_value_48 rfl rfl ?_
          | refine T_aload_nN (pc1 := 49) (pc := 48) k_Te_value_48 rfl rfl ?_
          | refine T_getR (pc1 := 52) (pc := 49) k_Te_value_49 rfl f_Te_28 rfl (by first | assumption | exact ga G (by decide) rfl) (by first | assumption | exact gr G (by decide) rfl) ?_
          | refine T_iload (pc1 := 54) (pc := 52) k_Te_value_52 rfl rfl ?_
          | refine T_iload (pc1 := 56) (pc := 54) k_Te_value_54 rfl rfl ?_
          | refine T_iload_n (pc1 := 57) (pc := 56) k_Te_value_56 rfl rfl ?_
          | refine T_iload_n (pc1 := 58) (pc := 57) k_Te_value_57 rfl rfl ?_
          | refine T_iload_n (pc1 := 59) (pc := 58) k_Te_value_58 rfl rfl ?_
          | (refine T_cS (As := [_, _, _, _]) (d1 := 1) (pc1 := 62) (pc := 59) k_Te_value_59 rfl (by decide) (Nat.le_of_ble_eq_true rfl) rfl o_Te_operand l_Te_31 rfl (c_Te_operand ?_) <;> try dsimp only [psh])
          | refine T_iastN (pc1 := 63) (pc := 62) k_Te_value_62 rfl (by first | assumption | exact ga G (by decide) rfl) (by omega) (by omega) ?_
          | refine T_goto (tgt := 148) (pc := 63) k_Te_value_63 rfl ?_)
        all_goals try (exfalso; omega)
        rw [hv]
        have b := back (p + 1) (some (.int (trc c))) (pI J (q + 2) p v) (by rw [if_pos h10]) (eqx_pI hJ _ (by simp)) (fun j hj2 => by rw [pI_self]; exact hj j hj2)
        rw [tpV, if_neg (by omega), Nat.add_sub_cancel] at b
        exact b
      by_cases hn0 : (0 : Int32) ≤ c
      · have et : trc c = c := by rw [trc, if_pos hn0]
        have h10 : (-10 : Int32) ≤ c := le_tr (by decide) hn0
        have hv : opV (trc c) x y w = c := by
          rw [et, opV, if_neg (fun q => by rw [q] at hn0; revert hn0; decide), if_neg (fun q => by rw [q] at hn0; revert hn0; decide), if_neg (fun q => by rw [q] at hn0; revert hn0; decide)]
        refine leaf c (by rw [et]; rw [le_toInt] at hn0; rw [lt_toInt]; have e1 : (-1000 : Int32).toInt = -1000 := rfl; have e0 : (0 : Int32).toInt = 0 := rfl; omega) h10 hv (fun j hj => ?_)
        rw [if_pos hn0]
        by_cases hjp : j = p
        · subst hjp; rw [va_up_self, va_up_self]
        · rw [va_up_ne _ _ hjp, va_up_ne _ _ hjp]; exact hp j (by omega)
      · by_cases h10 : (-10 : Int32) ≤ c
        · obtain ⟨hp1, hq⟩ := o1 h10
          obtain ⟨l1, l2⟩ := nm3_op (x := x) (y := y) (w := w) hn0 h10 (hq (Int32.not_le.mp hn0)) hnn
          refine leaf _ l1 h10 l2 (fun j hj => ?_)
          rw [if_neg hn0, if_pos h10]
          by_cases hjp : j = p
          · subst hjp; rw [va_up_self, va_up_self]
          · rw [va_up_ne _ _ hjp, va_up_ne _ _ hjp]; exact hp j (by omega)
        · clear leaf
          rw [if_neg hn0, if_neg h10, if_neg h10] at back
          by_cases h29 : c = -29
          · have hp1 := o2 h29
            rw [if_pos h29, if_pos h29] at back
            have et : trc c = -1033 := by rw [trc, if_neg hn0, if_neg h10, if_pos h29]
            have e0 : J (q + 2) (p - 1) = pl C (nm3 x y w) k (p - 1) := hp _ (by omega)
            have etp : tpV p = nI (p - 1) := by rw [tpV, if_neg (by omega)]
            rw [et, etp]
            have b := fun o6 J2 h1 h2 => back p o6 J2 rfl h1 h2
            rw [etp] at b
            have s33 : (-1000 : Int32) - -1033 = nI 33 := rfl
            repeat' (first
              | (refine T_iload (pc1 := 27) (pc := 25) k_Te_value_25 rfl rfl ?_ <;> try (refine T_sipush (v := (-1000)) (pc1 := 30) (pc := 27) k_Te_value_27 rfl (by decide) ?_ <;> try ((first | (with_reducible refine T_icmp_leN (tgt := 66) (pc1 := 33) (pc := 30) k_Te_value_30 (by decide) (by decide) (by omega) (by omega) (fun hc => ?_) (fun hc => ?_) <;> first | (exfalso; omega) | skip) | refine T_icmp_le_t (tgt := 66) (pc := 30) k_Te_value_30 rfl (by decide) ?_ | refine T_icmp_le_f (tgt := 66) (pc1 := 33) (pc := 30) k_Te_value_30 rfl rfl (by decide) ?_ | refine T_icmp_le (tgt := 66) (pc1 := 33) (pc := 30) k_Te_value_30 rfl rfl (fun hc => ?_) (fun hc => ?_)))))
              | (refine T_iload (pc1 := 35) (pc := 33) k_Te_value_33 rfl rfl ?_ <;> try (refine T_iconst (v := (nI 1)) (pc1 := 36) (pc := 35) k_Te_value_35 rfl (by decide) ?_ <;> try ((refine T_iadd (pc1 := 37) (pc := 36) k_Te_value_36 rfl ?_; rw [tpV_1]) <;> try ((first | refine T_aload_n (pc1 := 38) (pc := 37) k_Te_value_37 rfl rfl ?_ | refine T_aload_nN (pc1 := 38) (pc := 37) k_Te_value_37 rfl rfl ?_) <;> try (refine T_getR (pc1 := 41) (pc := 38) k_Te_value_38 rfl f_Te_28 rfl (by first | assumption | exact ga G (by decide) rfl) (by first | assumption | exact gr G (by decide) rfl) ?_ <;> try ((first | refine T_alenN (pc1 := 42) (pc := 41) k_Te_value_41 rfl (by first | assumption | exact ga G (by decide) rfl) ?_ | refine T_sclen (pc1 := 42) (pc := 41) k_Te_value_41 rfl ?_) <;> try ((first | (with_reducible refine T_icmp_geN (tgt := 148) (pc1 := 45) (pc := 42) k_Te_value_42 (by decide) (by decide) (by omega) (by omega) (fun hc => ?_) (fun hc => ?_) <;> first | (exfalso; omega) | skip) | refine T_icmp_ge_t (tgt := 148) (pc := 42) k_Te_value_42 rfl (by decide) ?_ | refine T_icmp_ge_f (tgt := 148) (pc1 := 45) (pc := 42) k_Te_value_42 rfl rfl (by decide) ?_ | refine T_icmp_ge (tgt := 148) (pc1 := 45) (pc := 42) k_Te_value_42 rfl rfl (fun hc => ?_) (fun hc => ?_)))))))))
              | ((refine T_iinc (v := (nI 1)) (pc1 := 48) (pc := 45) k_Te_value_45 rfl rfl (by decide) ?_; rw [tpV_1]) <;> try ((first | refine T_aload_n (pc1 := 49) (pc := 48) k_Te_value_48 rfl rfl ?_ | refine T_aload_nN (pc1 := 49) (pc := 48) k_Te_value_48 rfl rfl ?_) <;> try (refine T_getR (pc1 := 52) (pc := 49) k_Te_value_49 rfl f_Te_28 rfl (by first | assumption | exact ga G (by decide) rfl) (by first | assumption | exact gr G (by decide) rfl) ?_ <;> try (refine T_iload (pc1 := 54) (pc := 52) k_Te_value_52 rfl rfl ?_ <;> try (refine T_iload (pc1 := 56) (pc := 54) k_Te_value_54 rfl rfl ?_ <;> try (refine T_iload_n (pc1 := 57) (pc := 56) k_Te_value_56 rfl rfl ?_ <;> try (refine T_iload_n (pc1 := 58) (pc := 57) k_Te_value_57 rfl rfl ?_ <;> try (refine T_iload_n (pc1 := 59) (pc := 58) k_Te_value_58 rfl rfl ?_ <;> try ((refine T_cS (As := [_, _, _, _]) (d1 := 1) (pc1 := 62) (pc := 59) k_Te_value_59 rfl (by decide) (Nat.le_of_ble_eq_true rfl) rfl o_Te_operand l_Te_31 rfl (c_Te_operand ?_) <;> try dsimp only [psh]) <;> try (refine T_iastN (pc1 := 63) (pc := 62) k_Te_value_62 rfl (by first | assumption | exact ga G (by decide) rfl) (by omega) (by omega) ?_ <;> try (refine T_goto (tgt := 148) (pc := 63) k_Te_value_63 rfl ?_)))))))))))
              | (refine T_sipush (v := (-1000)) (pc1 := 69) (pc := 66) k_Te_value_66 rfl (by decide) ?_ <;> try (refine T_iload (pc1 := 71) (pc := 69) k_Te_value_69 rfl rfl ?_ <;> try ((refine T_isub (pc1 := 72) (pc := 71) k_Te_value_71 rfl ?_; rw [s33]) <;> try (refine T_bipush (v := (nI 33)) (pc1 := 74) (pc := 72) k_Te_value_72 rfl (by decide) ?_ <;> try ((first | (with_reducible refine T_icmp_neN (tgt := 107) (pc1 := 77) (pc := 74) k_Te_value_74 (by decide) (by decide) (by omega) (by omega) (fun hc => ?_) (fun hc => ?_) <;> first | (exfalso; omega) | skip) | refine T_icmp_ne_t (tgt := 107) (pc := 74) k_Te_value_74 rfl (by decide) ?_ | refine T_icmp_ne_f (tgt := 107) (pc1 := 77) (pc := 74) k_Te_value_74 rfl rfl (by decide) ?_ | refine T_icmp_ne (tgt := 107) (pc1 := 77) (pc := 74) k_Te_value_74 rfl rfl (fun hc => ?_) (fun hc => ?_)))))))
              | (refine T_iload (pc1 := 79) (pc := 77) k_Te_value_77 rfl rfl ?_ <;> try ((first | (with_reducible refine T_if_ltN (tgt := 148) (pc1 := 82) (pc := 79) k_Te_value_79 (by decide) (by decide) (by omega) ?_ <;> first | (exfalso; omega) | skip) | refine T_if_lt_t (tgt := 148) (pc := 79) k_Te_value_79 rfl (by decide) ?_ | refine T_if_lt_f (tgt := 148) (pc1 := 82) (pc := 79) k_Te_value_79 rfl rfl (by decide) ?_ | refine T_if_lt (tgt := 148) (pc1 := 82) (pc := 79) k_Te_value_79 rfl rfl (fun hc => ?_) (fun hc => ?_))))
              | ((first | refine T_aload_n (pc1 := 83) (pc := 82) k_Te_value_82 rfl rfl ?_ | refine T_aload_nN (pc1 := 83) (pc := 82) k_Te_value_82 rfl rfl ?_) <;> try (refine T_getR (pc1 := 86) (pc := 83) k_Te_value_83 rfl f_Te_28 rfl (by first | assumption | exact ga G (by decide) rfl) (by first | assumption | exact gr G (by decide) rfl) ?_ <;> try (refine T_iload (pc1 := 88) (pc := 86) k_Te_value_86 rfl rfl ?_ <;> try ((first | refine T_aload_n (pc1 := 89) (pc := 88) k_Te_value_88 rfl rfl ?_ | refine T_aload_nN (pc1 := 89) (pc := 88) k_Te_value_88 rfl rfl ?_) <;> try (refine T_getR (pc1 := 92) (pc := 89) k_Te_value_89 rfl f_Te_28 rfl (by first | assumption | exact ga G (by decide) rfl) (by first | assumption | exact gr G (by decide) rfl) ?_ <;> try (refine T_iload (pc1 := 94) (pc := 92) k_Te_value_92 rfl rfl ?_ <;> try ((first | refine T_ialdN (pc1 := 95) (pc := 94) k_Te_value_94 rfl (by first | assumption | exact ga G (by decide) rfl) (by omega) (by omega) (by first | assumption | (simp (disch := omega) only [pI_eq, pI_row, pI_col, va_up_self, va_up_ne, ne_eq, not_false_eq_true] <;> rfl) | rfl) ?_ | refine T_iald (pc1 := 95) (pc := 94) k_Te_value_94 rfl (by first | assumption | exact ga G (by decide) rfl) (by assumption) ?_) <;> try ((first | (with_reducible refine T_if_neN (tgt := 102) (pc1 := 98) (pc := 95) k_Te_value_95 (by decide) (by decide) (by omega) (fun hc => ?_) (fun hc => ?_) <;> first | (exfalso; omega) | skip) | refine T_if_ne_t (tgt := 102) (pc := 95) k_Te_value_95 rfl (by decide) ?_ | refine T_if_ne_f (tgt := 102) (pc1 := 98) (pc := 95) k_Te_value_95 rfl rfl (by decide) ?_ | refine T_if_ne (tgt := 102) (pc1 := 98) (pc := 95) k_Te_value_95 rfl rfl (fun hc => ?_) (fun hc => ?_))))))))))
              | (refine T_iconst (v := (nI 1)) (pc1 := 99) (pc := 98) k_Te_value_98 rfl (by decide) ?_ <;> try (refine T_goto (tgt := 103) (pc := 99) k_Te_value_99 rfl ?_))
              | (refine T_iconst (v := (nI 0)) (pc1 := 103) (pc := 102) k_Te_value_102 rfl (by decide) ?_)
              | (refine T_iastN (pc1 := 104) (pc := 103) k_Te_value_103 rfl (by first | assumption | exact ga G (by decide) rfl) (by omega) (by omega) ?_ <;> try (refine T_goto (tgt := 148) (pc := 104) k_Te_value_104 rfl ?_))
              | refine T_sipush (v := (-1000)) (pc1 := 30) (pc := 27) k_Te_value_27 rfl (by decide) ?_
              | (with_reducible refine T_icmp_leN (tgt := 66) (pc1 := 33) (pc := 30) k_Te_value_30 (by decide) (by decide) (by omega) (by omega) (fun hc => ?_) (fun hc => ?_) <;> first | (exfalso; omega) | skip)
              | refine T_icmp_le_t (tgt := 66) (pc := 30) k_Te_value_30 rfl (by decide) ?_
              | refine T_icmp_le_f (tgt := 66) (pc1 := 33) (pc := 30) k_Te_value_30 rfl rfl (by decide) ?_
              | refine T_icmp_le (tgt := 66) (pc1 := 33) (pc := 30) k_Te_value_30 rfl rfl (fun hc => ?_) (fun hc => ?_)
              | refine T_iconst (v := (nI 1)) (pc1 := 36) (pc := 35) k_Te_value_35 rfl (by decide) ?_
              | (refine T_iadd (pc1 := 37) (pc := 36) k_Te_value_36 rfl ?_; rw [tpV_1])
              | refine T_aload_n (pc1 := 38) (pc := 37) k_Te_value_37 rfl rfl ?_
              | refine T_aload_nN (pc1 := 38) (pc := 37) k_Te_value_37 rfl rfl ?_
              | refine T_getR (pc1 := 41) (pc := 38) k_Te_value_38 rfl f_Te_28 rfl (by first | assumption | exact ga G (by decide) rfl) (by first | assumption | exact gr G (by decide) rfl) ?_
              | refine T_alenN (pc1 := 42) (pc := 41) k_Te_value_41 rfl (by first | assumption | exact ga G (by decide) rfl) ?_
              | refine T_sclen (pc1 := 42) (pc := 41) k_Te_value_41 rfl ?_
              | (with_reducible refine T_icmp_geN (tgt := 148) (pc1 := 45) (pc := 42) k_Te_value_42 (by decide) (by decide) (by omega) (by omega) (fun hc => ?_) (fun hc => ?_) <;> first | (exfalso; omega) | skip)
              | refine T_icmp_ge_t (tgt := 148) (pc := 42) k_Te_value_42 rfl (by decide) ?_
              | refine T_icmp_ge_f (tgt := 148) (pc1 := 45) (pc := 42) k_Te_value_42 rfl rfl (by decide) ?_
              | refine T_icmp_ge (tgt := 148) (pc1 := 45) (pc := 42) k_Te_value_42 rfl rfl (fun hc => ?_) (fun hc => ?_)
              | refine T_aload_n (pc1 := 49) (pc := 48) k_Te_value_48 rfl rfl ?_
              | refine T_aload_nN (pc1 := 49) (pc := 48) k_Te_value_48 rfl rfl ?_
              | refine T_getR (pc1 := 52) (pc := 49) k_Te_value_49 rfl f_Te_28 rfl (by first | assumption | exact ga G (by decide) rfl) (by first | assumption | exact gr G (by decide) rfl) ?_
              | refine T_iload (pc1 := 54) (pc := 52) k_Te_value_52 rfl rfl ?_
              | refine T_iload (pc1 := 56) (pc := 54) k_Te_value_54 rfl rfl ?_
              | refine T_iload_n (pc1 := 57) (pc := 56) k_Te_value_56 rfl rfl ?_
              | refine T_iload_n (pc1 := 58) (pc := 57) k_Te_value_57 rfl rfl ?_
              | refine T_iload_n (pc1 := 59) (pc := 58) k_Te_value_58 rfl rfl ?_
              | (refine T_cS (As := [_, _, _, _]) (d1 := 1) (pc1 := 62) (pc := 59) k_Te_value_59 rfl (by decide) (Nat.le_of_ble_eq_true rfl) rfl o_Te_operand l_Te_31 rfl (c_Te_operand ?_) <;> try dsimp only [psh])
              | refine T_iastN (pc1 := 63) (pc := 62) k_Te_value_62 rfl (by first | assumption | exact ga G (by decide) rfl) (by omega) (by omega) ?_
              | refine T_goto (tgt := 148) (pc := 63) k_Te_value_63 rfl ?_
              | refine T_iload (pc1 := 71) (pc := 69) k_Te_value_69 rfl rfl ?_
              | (refine T_isub (pc1 := 72) (pc := 71) k_Te_value_71 rfl ?_; rw [s33])
              | refine T_bipush (v := (nI 33)) (pc1 := 74) (pc := 72) k_Te_value_72 rfl (by decide) ?_
              | (with_reducible refine T_icmp_neN (tgt := 107) (pc1 := 77) (pc := 74) k_Te_value_74 (by decide) (by decide) (by omega) (by omega) (fun hc => ?_) (fun hc => ?_) <;> first | (exfalso; omega) | skip)
              | refine T_icmp_ne_t (tgt := 107) (pc := 74) k_Te_value_74 rfl (by decide) ?_
              | refine T_icmp_ne_f (tgt := 107) (pc1 := 77) (pc := 74) k_Te_value_74 rfl rfl (by decide) ?_
              | refine T_icmp_ne (tgt := 107) (pc1 := 77) (pc := 74) k_Te_value_74 rfl rfl (fun hc => ?_) (fun hc => ?_)
              | (with_reducible refine T_if_ltN (tgt := 148) (pc1 := 82) (pc := 79) k_Te_value_79 (by decide) (by decide) (by omega) ?_ <;> first | (exfalso; omega) | skip)
              | refine T_if_lt_t (tgt := 148) (pc := 79) k_Te_value_79 rfl (by decide) ?_
              | refine T_if_lt_f (tgt := 148) (pc1 := 82) (pc := 79) k_Te_value_79 rfl rfl (by decide) ?_
              | refine T_if_lt (tgt := 148) (pc1 := 82) (pc := 79) k_Te_value_79 rfl rfl (fun hc => ?_) (fun hc => ?_)
              | refine T_getR (pc1 := 86) (pc := 83) k_Te_value_83 rfl f_Te_28 rfl (by first | assumption | exact ga G (by decide) rfl) (by first | assumption | exact gr G (by decide) rfl) ?_
              | refine T_iload (pc1 := 88) (pc := 86) k_Te_value_86 rfl rfl ?_
              | refine T_aload_n (pc1 := 89) (pc := 88) k_Te_value_88 rfl rfl ?_
              | refine T_aload_nN (pc1 := 89) (pc := 88) k_Te_value_88 rfl rfl ?_
              | refine T_getR (pc1 := 92) (pc := 89) k_Te_value_89 rfl f_Te_28 rfl (by first | assumption | exact ga G (by decide) rfl) (by first | assumption | exact gr G (by decide) rfl) ?_
              | refine T_iload (pc1 := 94) (pc := 92) k_Te_value_92 rfl rfl ?_
              | refine T_ialdN (pc1 := 95) (pc := 94) k_Te_value_94 rfl (by first | assumption | exact ga G (by decide) rfl) (by omega) (by omega) (by first | assumption | (simp (disch := omega) only [pI_eq, pI_row, pI_col, va_up_self, va_up_ne, ne_eq, not_false_eq_true] <;> rfl) | rfl) ?_
              | refine T_iald (pc1 := 95) (pc := 94) k_Te_value_94 rfl (by first | assumption | exact ga G (by decide) rfl) (by assumption) ?_
              | (with_reducible refine T_if_neN (tgt := 102) (pc1 := 98) (pc := 95) k_Te_value_95 (by decide) (by decide) (by omega) (fun hc => ?_) (fun hc => ?_) <;> first | (exfalso; omega) | skip)
              | refine T_if_ne_t (tgt := 102) (pc := 95) k_Te_value_95 rfl (by decide) ?_
              | refine T_if_ne_f (tgt := 102) (pc1 := 98) (pc := 95) k_Te_value_95 rfl rfl (by decide) ?_
              | refine T_if_ne (tgt := 102) (pc1 := 98) (pc := 95) k_Te_value_95 rfl rfl (fun hc => ?_) (fun hc => ?_)
              | refine T_goto (tgt := 103) (pc := 99) k_Te_value_99 rfl ?_
              | refine T_goto (tgt := 148) (pc := 104) k_Te_value_104 rfl ?_)
            · refine b _ _ (eqx_pI hJ _ (by simp)) (fun j hj => ?_)
              rw [pI_self]
              by_cases hjp : j = p - 1
              · subst hjp; rw [va_up_self, va_up_self, if_neg (by assumption)]
              · rw [va_up_ne _ _ hjp, va_up_ne _ _ hjp]; exact hp j (by omega)
            · refine b _ _ (eqx_pI hJ _ (by simp)) (fun j hj => ?_)
              rw [pI_self]
              by_cases hjp : j = p - 1
              · subst hjp; rw [va_up_self, va_up_self, if_pos (Decidable.not_not.mp (by assumption))]
              · rw [va_up_ne _ _ hjp, va_up_ne _ _ hjp]; exact hp j (by omega)
          · have hp2 := o3 h10 h29
            rw [if_neg h29, if_neg h29] at back
            obtain ⟨p, rfl⟩ : ∃ p', p = p' + 2 := ⟨p - 2, by omega⟩
            rw [show p + 2 - 2 = p by omega, show p + 2 - 1 = p + 1 by omega] at back
            have et : trc c = -1000 - sgV c := by rw [trc, if_neg hn0, if_neg h10, if_neg h29]
            have e1 : J (q + 2) (p + 1) = pl C (nm3 x y w) k (p + 1) := hp _ (by omega)
            have e0 : J (q + 2) p = pl C (nm3 x y w) k p := hp _ (by omega)
            have b := fun o6 J2 h1 h2 => back (p + 1) o6 J2 rfl h1 h2
            rw [tpV_s] at b
            clear back
            rw [et, tpV_s]
            clear et
            refine T_iload (pc1 := 27) (pc := 25) k_Te_value_25 rfl rfl ?_
            refine T_sipush (v := (-1000)) (pc1 := 30) (pc := 27) k_Te_value_27 rfl (by decide) ?_
            refine T_icmp_le_t (tgt := 66) (pc := 30) k_Te_value_30 rfl (sgV_le c) ?_
            repeat' (first
              | (refine T_sipush (v := (-1000)) (pc1 := 69) (pc := 66) k_Te_value_66 rfl (by decide) ?_ <;> try (refine T_iload (pc1 := 71) (pc := 69) k_Te_value_69 rfl rfl ?_ <;> try ((refine T_isub (pc1 := 72) (pc := 71) k_Te_value_71 rfl ?_; rw [sgV_sub]) <;> try (refine T_bipush (v := (nI 33)) (pc1 := 74) (pc := 72) k_Te_value_72 rfl (by decide) ?_ <;> try (refine T_icmp_ne_t (tgt := 107) (pc := 74) k_Te_value_74 rfl (sgV_ne c) ?_)))))
              | (refine T_iload (pc1 := 79) (pc := 77) k_Te_value_77 rfl rfl ?_ <;> try ((first | (with_reducible refine T_if_ltN (tgt := 148) (pc1 := 82) (pc := 79) k_Te_value_79 (by decide) (by decide) (by omega) ?_ <;> first | (exfalso; omega) | skip) | refine T_if_lt_t (tgt := 148) (pc := 79) k_Te_value_79 rfl (by decide) ?_ | refine T_if_lt_f (tgt := 148) (pc1 := 82) (pc := 79) k_Te_value_79 rfl rfl (by decide) ?_ | refine T_if_lt (tgt := 148) (pc1 := 82) (pc := 79) k_Te_value_79 rfl rfl (fun hc => ?_) (fun hc => ?_))))
              | ((first | refine T_aload_n (pc1 := 83) (pc := 82) k_Te_value_82 rfl rfl ?_ | refine T_aload_nN (pc1 := 83) (pc := 82) k_Te_value_82 rfl rfl ?_) <;> try (refine T_getR (pc1 := 86) (pc := 83) k_Te_value_83 rfl f_Te_28 rfl (by first | assumption | exact ga G (by decide) rfl) (by first | assumption | exact gr G (by decide) rfl) ?_ <;> try (refine T_iload (pc1 := 88) (pc := 86) k_Te_value_86 rfl rfl ?_ <;> try ((first | refine T_aload_n (pc1 := 89) (pc := 88) k_Te_value_88 rfl rfl ?_ | refine T_aload_nN (pc1 := 89) (pc := 88) k_Te_value_88 rfl rfl ?_) <;> try (refine T_getR (pc1 := 92) (pc := 89) k_Te_value_89 rfl f_Te_28 rfl (by first | assumption | exact ga G (by decide) rfl) (by first | assumption | exact gr G (by decide) rfl) ?_ <;> try (refine T_iload (pc1 := 94) (pc := 92) k_Te_value_92 rfl rfl ?_ <;> try ((first | refine T_ialdN (pc1 := 95) (pc := 94) k_Te_value_94 rfl (by first | assumption | exact ga G (by decide) rfl) (by omega) (by omega) (by first | assumption | (simp (disch := omega) only [pI_eq, pI_row, pI_col, va_up_self, va_up_ne, ne_eq, not_false_eq_true] <;> rfl) | rfl) ?_ | refine T_iald (pc1 := 95) (pc := 94) k_Te_value_94 rfl (by first | assumption | exact ga G (by decide) rfl) (by assumption) ?_) <;> try ((first | (with_reducible refine T_if_neN (tgt := 102) (pc1 := 98) (pc := 95) k_Te_value_95 (by decide) (by decide) (by omega) (fun hc => ?_) (fun hc => ?_) <;> first | (exfalso; omega) | skip) | refine T_if_ne_t (tgt := 102) (pc := 95) k_Te_value_95 rfl (by decide) ?_ | refine T_if_ne_f (tgt := 102) (pc1 := 98) (pc := 95) k_Te_value_95 rfl rfl (by decide) ?_ | refine T_if_ne (tgt := 102) (pc1 := 98) (pc := 95) k_Te_value_95 rfl rfl (fun hc => ?_) (fun hc => ?_))))))))))
              | (refine T_iconst (v := (nI 1)) (pc1 := 99) (pc := 98) k_Te_value_98 rfl (by decide) ?_ <;> try (refine T_goto (tgt := 103) (pc := 99) k_Te_value_99 rfl ?_))
              | (refine T_iconst (v := (nI 0)) (pc1 := 103) (pc := 102) k_Te_value_102 rfl (by decide) ?_)
              | (refine T_iastN (pc1 := 104) (pc := 103) k_Te_value_103 rfl (by first | assumption | exact ga G (by decide) rfl) (by omega) (by omega) ?_ <;> try (refine T_goto (tgt := 148) (pc := 104) k_Te_value_104 rfl ?_))
              | (refine T_iload (pc1 := 109) (pc := 107) k_Te_value_107 rfl rfl ?_ <;> try (refine T_iconst (v := (nI 1)) (pc1 := 110) (pc := 109) k_Te_value_109 rfl (by decide) ?_ <;> try ((first | (with_reducible refine T_icmp_ltN (tgt := 148) (pc1 := 113) (pc := 110) k_Te_value_110 (by decide) (by decide) (by omega) (by omega) (fun hc => ?_) (fun hc => ?_) <;> first | (exfalso; omega) | skip) | refine T_icmp_lt_t (tgt := 148) (pc := 110) k_Te_value_110 rfl (by decide) ?_ | refine T_icmp_lt_f (tgt := 148) (pc1 := 113) (pc := 110) k_Te_value_110 rfl rfl (by decide) ?_ | refine T_icmp_lt (tgt := 148) (pc1 := 113) (pc := 110) k_Te_value_110 rfl rfl (fun hc => ?_) (fun hc => ?_)))))
              | ((refine T_iinc (v := (-1)) (pc1 := 116) (pc := 113) k_Te_value_113 rfl rfl (by decide) ?_; rw [tpm1]) <;> try ((first | refine T_aload_n (pc1 := 117) (pc := 116) k_Te_value_116 rfl rfl ?_ | refine T_aload_nN (pc1 := 117) (pc := 116) k_Te_value_116 rfl rfl ?_) <;> try (refine T_getR (pc1 := 120) (pc := 117) k_Te_value_117 rfl f_Te_28 rfl (by first | assumption | exact ga G (by decide) rfl) (by first | assumption | exact gr G (by decide) rfl) ?_ <;> try (refine T_iload (pc1 := 122) (pc := 120) k_Te_value_120 rfl rfl ?_ <;> try (refine T_sipush (v := (-1000)) (pc1 := 125) (pc := 122) k_Te_value_122 rfl (by decide) ?_ <;> try (refine T_iload (pc1 := 127) (pc := 125) k_Te_value_125 rfl rfl ?_ <;> try ((refine T_isub (pc1 := 128) (pc := 127) k_Te_value_127 rfl ?_; rw [sgV_sub]) <;> try ((first | refine T_aload_n (pc1 := 129) (pc := 128) k_Te_value_128 rfl rfl ?_ | refine T_aload_nN (pc1 := 129) (pc := 128) k_Te_value_128 rfl rfl ?_) <;> try (refine T_getR (pc1 := 132) (pc := 129) k_Te_value_129 rfl f_Te_28 rfl (by first | assumption | exact ga G (by decide) rfl) (by first | assumption | exact gr G (by decide) rfl) ?_ <;> try (refine T_iload (pc1 := 134) (pc := 132) k_Te_value_132 rfl rfl ?_ <;> try ((first | refine T_ialdN (pc1 := 135) (pc := 134) k_Te_value_134 rfl (by first | assumption | exact ga G (by decide) rfl) (by omega) (by omega) (by first | assumption | (simp (disch := omega) only [pI_eq, pI_row, pI_col, va_up_self, va_up_ne, ne_eq, not_false_eq_true] <;> rfl) | rfl) ?_ | refine T_iald (pc1 := 135) (pc := 134) k_Te_value_134 rfl (by first | assumption | exact ga G (by decide) rfl) (by assumption) ?_) <;> try ((first | refine T_aload_n (pc1 := 136) (pc := 135) k_Te_value_135 rfl rfl ?_ | refine T_aload_nN (pc1 := 136) (pc := 135) k_Te_value_135 rfl rfl ?_) <;> try (refine T_getR (pc1 := 139) (pc := 136) k_Te_value_136 rfl f_Te_28 rfl (by first | assumption | exact ga G (by decide) rfl) (by first | assumption | exact gr G (by decide) rfl) ?_ <;> try (refine T_iload (pc1 := 141) (pc := 139) k_Te_value_139 rfl rfl ?_))))))))))))))
              | (refine T_iconst (v := (nI 1)) (pc1 := 142) (pc := 141) k_Te_value_141 rfl (by decide) ?_ <;> try ((first | with_reducible refine T_iaddN (pc1 := 143) (pc := 142) k_Te_value_142 (by decide) ?_ | refine T_iadd (pc1 := 143) (pc := 142) k_Te_value_142 rfl ?_) <;> try ((first | refine T_ialdN (pc1 := 144) (pc := 143) k_Te_value_143 rfl (by first | assumption | exact ga G (by decide) rfl) (by omega) (by omega) (by first | assumption | (simp (disch := omega) only [pI_eq, pI_row, pI_col, va_up_self, va_up_ne, ne_eq, not_false_eq_true] <;> rfl) | rfl) ?_ | refine T_iald (pc1 := 144) (pc := 143) k_Te_value_143 rfl (by first | assumption | exact ga G (by decide) rfl) (by assumption) ?_) <;> try ((refine T_cS (As := [_, _, _]) (d1 := 1) (pc1 := 147) (pc := 144) k_Te_value_144 rfl (by decide) (Nat.le_of_ble_eq_true rfl) rfl o_Te_joined l_Te_35 rfl (c_Te_joined (op := c) rfl (fun r hr => ?_)) <;> try dsimp only [psh]) <;> try (refine T_iastN (pc1 := 148) (pc := 147) k_Te_value_147 rfl (by first | assumption | exact ga G (by decide) rfl) (by omega) (by omega) ?_)))))
              | refine T_iload (pc1 := 71) (pc := 69) k_Te_value_69 rfl rfl ?_
              | (refine T_isub (pc1 := 72) (pc := 71) k_Te_value_71 rfl ?_; rw [sgV_sub])
              | refine T_bipush (v := (nI 33)) (pc1 := 74) (pc := 72) k_Te_value_72 rfl (by decide) ?_
              | refine T_icmp_ne_t (tgt := 107) (pc := 74) k_Te_value_74 rfl (sgV_ne c) ?_
              | (with_reducible refine T_if_ltN (tgt := 148) (pc1 := 82) (pc := 79) k_Te_value_79 (by decide) (by decide) (by omega) ?_ <;> first | (exfalso; omega) | skip)
              | refine T_if_lt_t (tgt := 148) (pc := 79) k_Te_value_79 rfl (by decide) ?_
              | refine T_if_lt_f (tgt := 148) (pc1 := 82) (pc := 79) k_Te_value_79 rfl rfl (by decide) ?_
              | refine T_if_lt (tgt := 148) (pc1 := 82) (pc := 79) k_Te_value_79 rfl rfl (fun hc => ?_) (fun hc => ?_)
              | refine T_getR (pc1 := 86) (pc := 83) k_Te_value_83 rfl f_Te_28 rfl (by first | assumption | exact ga G (by decide) rfl) (by first | assumption | exact gr G (by decide) rfl) ?_
              | refine T_iload (pc1 := 88) (pc := 86) k_Te_value_86 rfl rfl ?_
              | refine T_aload_n (pc1 := 89) (pc := 88) k_Te_value_88 rfl rfl ?_
              | refine T_aload_nN (pc1 := 89) (pc := 88) k_Te_value_88 rfl rfl ?_
              | refine T_getR (pc1 := 92) (pc := 89) k_Te_value_89 rfl f_Te_28 rfl (by first | assumption | exact ga G (by decide) rfl) (by first | assumption | exact gr G (by decide) rfl) ?_
              | refine T_iload (pc1 := 94) (pc := 92) k_Te_value_92 rfl rfl ?_
              | refine T_ialdN (pc1 := 95) (pc := 94) k_Te_value_94 rfl (by first | assumption | exact ga G (by decide) rfl) (by omega) (by omega) (by first | assumption | (simp (disch := omega) only [pI_eq, pI_row, pI_col, va_up_self, va_up_ne, ne_eq, not_false_eq_true] <;> rfl) | rfl) ?_
              | refine T_iald (pc1 := 95) (pc := 94) k_Te_value_94 rfl (by first | assumption | exact ga G (by decide) rfl) (by assumption) ?_
              | (with_reducible refine T_if_neN (tgt := 102) (pc1 := 98) (pc := 95) k_Te_value_95 (by decide) (by decide) (by omega) (fun hc => ?_) (fun hc => ?_) <;> first | (exfalso; omega) | skip)
              | refine T_if_ne_t (tgt := 102) (pc := 95) k_Te_value_95 rfl (by decide) ?_
              | refine T_if_ne_f (tgt := 102) (pc1 := 98) (pc := 95) k_Te_value_95 rfl rfl (by decide) ?_
              | refine T_if_ne (tgt := 102) (pc1 := 98) (pc := 95) k_Te_value_95 rfl rfl (fun hc => ?_) (fun hc => ?_)
              | refine T_goto (tgt := 103) (pc := 99) k_Te_value_99 rfl ?_
              | refine T_goto (tgt := 148) (pc := 104) k_Te_value_104 rfl ?_
              | refine T_iconst (v := (nI 1)) (pc1 := 110) (pc := 109) k_Te_value_109 rfl (by decide) ?_
              | (with_reducible refine T_icmp_ltN (tgt := 148) (pc1 := 113) (pc := 110) k_Te_value_110 (by decide) (by decide) (by omega) (by omega) (fun hc => ?_) (fun hc => ?_) <;> first | (exfalso; omega) | skip)
              | refine T_icmp_lt_t (tgt := 148) (pc := 110) k_Te_value_110 rfl (by decide) ?_
              | refine T_icmp_lt_f (tgt := 148) (pc1 := 113) (pc := 110) k_Te_value_110 rfl rfl (by decide) ?_
              | refine T_icmp_lt (tgt := 148) (pc1 := 113) (pc := 110) k_Te_value_110 rfl rfl (fun hc => ?_) (fun hc => ?_)
              | refine T_aload_n (pc1 := 117) (pc := 116) k_Te_value_116 rfl rfl ?_
              | refine T_aload_nN (pc1 := 117) (pc := 116) k_Te_value_116 rfl rfl ?_
              | refine T_getR (pc1 := 120) (pc := 117) k_Te_value_117 rfl f_Te_28 rfl (by first | assumption | exact ga G (by decide) rfl) (by first | assumption | exact gr G (by decide) rfl) ?_
              | refine T_iload (pc1 := 122) (pc := 120) k_Te_value_120 rfl rfl ?_
              | refine T_sipush (v := (-1000)) (pc1 := 125) (pc := 122) k_Te_value_122 rfl (by decide) ?_
              | refine T_iload (pc1 := 127) (pc := 125) k_Te_value_125 rfl rfl ?_
              | (refine T_isub (pc1 := 128) (pc := 127) k_Te_value_127 rfl ?_; rw [sgV_sub])
              | refine T_aload_n (pc1 := 129) (pc := 128) k_Te_value_128 rfl rfl ?_
              | refine T_aload_nN (pc1 := 129) (pc := 128) k_Te_value_128 rfl rfl ?_
              | refine T_getR (pc1 := 132) (pc := 129) k_Te_value_129 rfl f_Te_28 rfl (by first | assumption | exact ga G (by decide) rfl) (by first | assumption | exact gr G (by decide) rfl) ?_
              | refine T_iload (pc1 := 134) (pc := 132) k_Te_value_132 rfl rfl ?_
              | refine T_ialdN (pc1 := 135) (pc := 134) k_Te_value_134 rfl (by first | assumption | exact ga G (by decide) rfl) (by omega) (by omega) (by first | assumption | (simp (disch := omega) only [pI_eq, pI_row, pI_col, va_up_self, va_up_ne, ne_eq, not_false_eq_true] <;> rfl) | rfl) ?_
              | refine T_iald (pc1 := 135) (pc := 134) k_Te_value_134 rfl (by first | assumption | exact ga G (by decide) rfl) (by assumption) ?_
              | refine T_aload_n (pc1 := 136) (pc := 135) k_Te_value_135 rfl rfl ?_
              | refine T_aload_nN (pc1 := 136) (pc := 135) k_Te_value_135 rfl rfl ?_
              | refine T_getR (pc1 := 139) (pc := 136) k_Te_value_136 rfl f_Te_28 rfl (by first | assumption | exact ga G (by decide) rfl) (by first | assumption | exact gr G (by decide) rfl) ?_
              | refine T_iload (pc1 := 141) (pc := 139) k_Te_value_139 rfl rfl ?_
              | with_reducible refine T_iaddN (pc1 := 143) (pc := 142) k_Te_value_142 (by decide) ?_
              | refine T_iadd (pc1 := 143) (pc := 142) k_Te_value_142 rfl ?_
              | refine T_ialdN (pc1 := 144) (pc := 143) k_Te_value_143 rfl (by first | assumption | exact ga G (by decide) rfl) (by omega) (by omega) (by first | assumption | (simp (disch := omega) only [pI_eq, pI_row, pI_col, va_up_self, va_up_ne, ne_eq, not_false_eq_true] <;> rfl) | rfl) ?_
              | refine T_iald (pc1 := 144) (pc := 143) k_Te_value_143 rfl (by first | assumption | exact ga G (by decide) rfl) (by assumption) ?_
              | (refine T_cS (As := [_, _, _]) (d1 := 1) (pc1 := 147) (pc := 144) k_Te_value_144 rfl (by decide) (Nat.le_of_ble_eq_true rfl) rfl o_Te_joined l_Te_35 rfl (c_Te_joined (op := c) rfl (fun r hr => ?_)) <;> try dsimp only [psh])
              | refine T_iastN (pc1 := 148) (pc := 147) k_Te_value_147 rfl (by first | assumption | exact ga G (by decide) rfl) (by omega) (by omega) ?_)
            all_goals try (exfalso; omega)
            refine b _ _ (eqx_pI hJ _ (by simp)) (fun j hj => ?_)
            rw [pI_self, hr]
            by_cases hjp : j = p
            · subst hjp; rw [va_up_self, va_up_self]
            · rw [va_up_ne _ _ hjp, va_up_ne _ _ hjp]; exact hp j (by omega)
  repeat' (first
    | (refine T_iconst (v := (-1)) (pc1 := 1) (pc := 0) k_Te_value_0 rfl (by decide) ?_ <;> try (refine T_istore (pc1 := 3) (pc := 1) k_Te_value_1 rfl (Nat.le_of_ble_eq_true rfl) ?_ <;> try (refine T_iconst (v := (nI 0)) (pc1 := 4) (pc := 3) k_Te_value_3 rfl (by decide) ?_ <;> try (refine T_istore (pc1 := 6) (pc := 4) k_Te_value_4 rfl (Nat.le_of_ble_eq_true rfl) ?_))))
    | refine T_istore (pc1 := 3) (pc := 1) k_Te_value_1 rfl (Nat.le_of_ble_eq_true rfl) ?_
    | refine T_iconst (v := (nI 0)) (pc1 := 4) (pc := 3) k_Te_value_3 rfl (by decide) ?_
    | refine T_istore (pc1 := 6) (pc := 4) k_Te_value_4 rfl (Nat.le_of_ble_eq_true rfl) ?_)
  exact loop m 0 none I (by omega) eqx_rf (fun j hj => absurd hj (Nat.not_lt_zero _))
end C2
