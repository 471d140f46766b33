/-! The model: bits come, are told, set; lots. -/
section PU2
theorem jmin_nI {a b : Nat} (ha : a < 2147483648) (hb : b < 2147483648) : jmin (nI a) (nI b) = nI (min a b) := by
  unfold jmin
  by_cases h : nI b < nI a
  · rw [if_pos h, Nat.min_eq_right (Nat.le_of_lt ((nI_ltI hb ha).mp h))]
  · rw [if_neg h, Nat.min_eq_left (Nat.not_lt.mp (fun q => h ((nI_ltI hb ha).mpr q)))]
theorem jmax_nI {a b : Nat} (ha : a < 2147483648) (hb : b < 2147483648) : jmax (nI a) (nI b) = nI (max a b) := by
  unfold jmax
  by_cases h : nI a < nI b
  · rw [if_pos h, Nat.max_eq_right (Nat.le_of_lt ((nI_ltI ha hb).mp h))]
  · rw [if_neg h, Nat.max_eq_left (Nat.not_lt.mp (fun q => h ((nI_ltI ha hb).mpr q)))]
theorem T_mmaxV {d : Nat} {μ : Mth} {pc pc1 : Nat} {L : Lcl} {S : List Value} {g : Geo} {I : IM} {P : Option Value → Geo → IM → Prop} {a b idx : Nat} {x y : Int32} (hf : Fe μ pc (.invokestatic idx) 3) (hq : pc + 3 = pc1) (hl : Cond.methodLink μ.1.cls idx Lib.Math.max.name ∈ GW) (hd : 0 < d) (hS : (S.map fun v => v.category).sum ≤ 8) (hx : x = nI a) (hy : y = nI b) (ha : a < 2147483648) (hb : b < 2147483648) (kR : Rl d μ pc1 L (.int (nI (max a b)) :: S) g I P) : Rl d μ pc L (.int y :: .int x :: S) g I P := T_mmax hf hq hl hd hS (by rw [hx, hy, jmax_nI ha hb]; exact kR)
theorem T_mminV {d : Nat} {μ : Mth} {pc pc1 : Nat} {L : Lcl} {S : List Value} {g : Geo} {I : IM} {P : Option Value → Geo → IM → Prop} {a b idx : Nat} {x y : Int32} (hf : Fe μ pc (.invokestatic idx) 3) (hq : pc + 3 = pc1) (hl : Cond.methodLink μ.1.cls idx Lib.Math.min.name ∈ GW) (hd : 0 < d) (hS : (S.map fun v => v.category).sum ≤ 8) (hx : x = nI a) (hy : y = nI b) (ha : a < 2147483648) (hb : b < 2147483648) (kR : Rl d μ pc1 L (.int (nI (min a b)) :: S) g I P) : Rl d μ pc L (.int y :: .int x :: S) g I P := T_mmin hf hq hl hd hS (by rw [hx, hy, jmin_nI ha hb]; exact kR)
def comesN (N : Row) (b : Nat) (k f t l : Int32) : Row := va_up (va_up (va_up (va_up (va_up (va_up (va_up N (12 + 6 * b + 0) k) (12 + 6 * b + 1) f) (12 + 6 * b + 2) t) (12 + 6 * b + 3) l) (12 + 6 * b + 4) (nI 0)) (12 + 6 * b + 5) cNONE) 5 (nI (b + 1))
abbrev okBit (k f t l : Int32) : Prop := rg 6 k ∧ (rg 8 f ∧ rg 8 t) ∧ ¬ f = t ∧ bt 1 99 l
def bitA (n : Nat) (k f t l : Int32) : Int32 := if okBit k f t l then (if n = 14 then cFULL else nI n) else cBAD
def bitN (N : Row) (n : Nat) (k f t l : Int32) : Row := if okBit k f t l ∧ ¬ n = 14 then comesN N n k f t l else N
def toldV (N : Row) (tn j w : Nat) : Int32 := if w = 6 then tkI N tn j else if w = 7 then (if brd N j = true then nI 1 else nI 0) else if w = 8 then thI N tn j else if w = 9 then wthV (bf N j 0).toNatClampNeg (bf N j 3) else bf N j w
def toldA (N : Row) (n tn : Nat) (b w : Int32) : Int32 := if rg n b ∧ rg 10 w then toldV N tn b.toNatClampNeg w.toNatClampNeg else cBAD
def asA (N : Row) (n : Nat) (b k : Int32) : Int32 := if rg n b ∧ rg 6 k then (if und (bf N b.toNatClampNeg 0).toNatClampNeg k.toNatClampNeg = true then bf N b.toNatClampNeg 3 else cKIND) else cBAD
def turnsA (N : Row) (n : Nat) (b k : Int32) : Int32 := if rg n b ∧ rg 6 k then bf N b.toNatClampNeg 0 else cBAD
def turnsN (N : Row) (n : Nat) (b k : Int32) : Row := if rg n b ∧ rg 6 k then va_up N (12 + 6 * b.toNatClampNeg + 0) k else N
abbrev okSet (w v : Int32) : Prop := (w = nI 3 ∧ bt 1 99 v) ∨ (w = nI 4 ∧ bt 0 999 v) ∨ (w = nI 5 ∧ (bt 0 999 v ∨ v = cNONE))
def setA (N : Row) (n : Nat) (b w v : Int32) : Int32 := if rg n b ∧ okSet w v then bf N b.toNatClampNeg w.toNatClampNeg else cBAD
def setN (N : Row) (n : Nat) (b w v : Int32) : Row := if rg n b ∧ okSet w v then va_up N (12 + 6 * b.toNatClampNeg + w.toNatClampNeg) v else N
abbrev okRule (w v : Int32) : Prop := (w = nI 0 ∧ bt 0 1 v) ∨ (w = nI 1 ∧ bt 1 99 v)
def ruleA (N : Row) (w v : Int32) : Int32 := if okRule w v then N (3 + w.toNatClampNeg) else cBAD
def ruleN (N : Row) (w v : Int32) : Row := if okRule w v then va_up N (3 + w.toNatClampNeg) v else N
def dz (z : Int32) : Int32 := z * nI 1103515245 + nI 12345
def dq (z : Int32) : Nat := z.toBitVec.toNat / 256
theorem dq_lt (z : Int32) : dq z < 16777216 := by
  unfold dq
  have := z.toBitVec.isLt
  omega
theorem dq_eq (z : Int32) : (z.toUInt32 >>> ((nI 8).toUInt32 &&& Int32.toUInt32 31)).toInt32 = nI (dq z) := by
  have h := pk_ushr z (nI 8) 8 (by decide)
  have h2 := dq_lt z
  have e : (z.toUInt32 >>> ((nI 8).toUInt32 &&& Int32.toUInt32 31)).toInt32.toBitVec.toNat = (nI (dq z)).toBitVec.toNat := by
    rw [h, pk_tn (by omega)]
    rfl
  exact Int32.toBitVec_inj.mp (BitVec.eq_of_toNat_eq e)
def dealS (N : Row) (n : Nat) : Row := comesN (va_up N 0 (dz (dz (dz (dz (N 0)))))) n (nI (dq (dz (N 0)) % 6)) (nI (dq (dz (dz (N 0))) % 8)) (nI ((dq (dz (dz (N 0))) % 8 + 1 + dq (dz (dz (dz (N 0)))) % 7) % 8)) (nI (1 + dq (dz (dz (dz (dz (N 0))))) % 40))
def dealN (N : Row) (n : Nat) : Nat → Row
  | 0 => N
  | m + 1 => dealN (dealS N n) (n + 1) m
def dealM (n : Nat) (v : Int32) : Nat := if bt 1 14 v then min v.toNatClampNeg (14 - n) else 0
def dealA (n : Nat) (v : Int32) : Int32 := if bt 1 14 v then nI (min v.toNatClampNeg (14 - n)) else cBAD
end PU2
section M6
variable {g : Geo} {I : IM} {K : Option Value → Geo → IM → Prop}
theorem upI {i k : Nat} {v : Int32} {N : Row} (h : I i = N) : pI I i k v i = va_up N k v := by rw [pI_self, h]
theorem c_M_comes {N : Row} {n : Nat} {k f t l : Int32} (G : GeoOK g) (hN : I 102 = N) (h5 : N 5 = nI n) (hn : n < 14) (kk : ∀ J, eqx [102] I J → J 102 = comesN N n k f t l → K (some (.int (nI n))) g J) : Cl 1 M_M_comes [.ref 101, .int k, .int f, .int t, .int l] g I K := by
  show Rl 1 M_M_comes 0 [some (.ref 101), some (.int k), some (.int f), some (.int t), some (.int l), none, none] [] g I K
  repeat' (first
    | refine T_aload_n (pc1 := 1) (pc := 0) k_M_comes_0 rfl rfl ?_
    | refine T_aload_nN (pc1 := 1) (pc := 0) k_M_comes_0 rfl rfl ?_
    | refine T_getR (pc1 := 4) (pc := 1) k_M_comes_1 rfl f_M_9 rfl (by first | exact ga G (by decide) rfl | assumption) (by first | exact gr G (by decide) rfl | assumption) ?_
    | refine T_iconst (v := (nI 5)) (pc1 := 5) (pc := 4) k_M_comes_4 rfl (by decide) ?_
    | refine T_ialdN (pc1 := 6) (pc := 5) k_M_comes_5 rfl (by first | exact ga G (by decide) rfl | assumption) (by omega) (by omega) (by first | assumption | (simp (disch := omega) only [pI_eq, pI_row, pI_col, va_up_self, va_up_ne, ne_eq, not_false_eq_true, hN, h5] <;> rfl) | rfl) ?_
    | refine T_iald (pc1 := 6) (pc := 5) k_M_comes_5 rfl (by first | exact ga G (by decide) rfl | assumption) (by assumption) ?_
    | refine T_istore (pc1 := 8) (pc := 6) k_M_comes_6 rfl (Nat.le_of_ble_eq_true rfl) ?_
    | refine T_bipush (v := (nI 12)) (pc1 := 10) (pc := 8) k_M_comes_8 rfl (by decide) ?_
    | refine T_bipush (v := (nI 6)) (pc1 := 12) (pc := 10) k_M_comes_10 rfl (by decide) ?_
    | refine T_iload (pc1 := 14) (pc := 12) k_M_comes_12 rfl rfl ?_
    | with_reducible refine T_imulN (pc1 := 15) (pc := 14) k_M_comes_14 (by decide) ?_
    | refine T_imul (pc1 := 15) (pc := 14) k_M_comes_14 rfl ?_
    | with_reducible refine T_iaddN (pc1 := 16) (pc := 15) k_M_comes_15 (by decide) ?_
    | refine T_iadd (pc1 := 16) (pc := 15) k_M_comes_15 rfl ?_
    | refine T_istore (pc1 := 18) (pc := 16) k_M_comes_16 rfl (Nat.le_of_ble_eq_true rfl) ?_
    | refine T_aload_n (pc1 := 19) (pc := 18) k_M_comes_18 rfl rfl ?_
    | refine T_aload_nN (pc1 := 19) (pc := 18) k_M_comes_18 rfl rfl ?_
    | refine T_getR (pc1 := 22) (pc := 19) k_M_comes_19 rfl f_M_9 rfl (by first | exact ga G (by decide) rfl | assumption) (by first | exact gr G (by decide) rfl | assumption) ?_
    | refine T_iload (pc1 := 24) (pc := 22) k_M_comes_22 rfl rfl ?_
    | refine T_iconst (v := (nI 0)) (pc1 := 25) (pc := 24) k_M_comes_24 rfl (by decide) ?_
    | with_reducible refine T_iaddN (pc1 := 26) (pc := 25) k_M_comes_25 (by decide) ?_
    | refine T_iadd (pc1 := 26) (pc := 25) k_M_comes_25 rfl ?_
    | refine T_iload_n (pc1 := 27) (pc := 26) k_M_comes_26 rfl rfl ?_
    | refine T_iastN (pc1 := 28) (pc := 27) k_M_comes_27 rfl (by first | exact ga G (by decide) rfl | assumption) (by omega) (by omega) ?_
    | refine T_aload_n (pc1 := 29) (pc := 28) k_M_comes_28 rfl rfl ?_
    | refine T_aload_nN (pc1 := 29) (pc := 28) k_M_comes_28 rfl rfl ?_
    | refine T_getR (pc1 := 32) (pc := 29) k_M_comes_29 rfl f_M_9 rfl (by first | exact ga G (by decide) rfl | assumption) (by first | exact gr G (by decide) rfl | assumption) ?_
    | refine T_iload (pc1 := 34) (pc := 32) k_M_comes_32 rfl rfl ?_
    | refine T_iconst (v := (nI 1)) (pc1 := 35) (pc := 34) k_M_comes_34 rfl (by decide) ?_
    | with_reducible refine T_iaddN (pc1 := 36) (pc := 35) k_M_comes_35 (by decide) ?_
    | refine T_iadd (pc1 := 36) (pc := 35) k_M_comes_35 rfl ?_
    | refine T_iload_n (pc1 := 37) (pc := 36) k_M_comes_36 rfl rfl ?_
    | refine T_iastN (pc1 := 38) (pc := 37) k_M_comes_37 rfl (by first | exact ga G (by decide) rfl | assumption) (by omega) (by omega) ?_
    | refine T_aload_n (pc1 := 39) (pc := 38) k_M_comes_38 rfl rfl ?_
    | refine T_aload_nN (pc1 := 39) (pc := 38) k_M_comes_38 rfl rfl ?_
    | refine T_getR (pc1 := 42) (pc := 39) k_M_comes_39 rfl f_M_9 rfl (by first | exact ga G (by decide) rfl | assumption) (by first | exact gr G (by decide) rfl | assumption) ?_
    | refine T_iload (pc1 := 44) (pc := 42) k_M_comes_42 rfl rfl ?_
    | refine T_iconst (v := (nI 2)) (pc1 := 45) (pc := 44) k_M_comes_44 rfl (by decide) ?_
    | with_reducible refine T_iaddN (pc1 := 46) (pc := 45) k_M_comes_45 (by decide) ?_
    | refine T_iadd (pc1 := 46) (pc := 45) k_M_comes_45 rfl ?_
    | refine T_iload_n (pc1 := 47) (pc := 46) k_M_comes_46 rfl rfl ?_
    | refine T_iastN (pc1 := 48) (pc := 47) k_M_comes_47 rfl (by first | exact ga G (by decide) rfl | assumption) (by omega) (by omega) ?_
    | refine T_aload_n (pc1 := 49) (pc := 48) k_M_comes_48 rfl rfl ?_
    | refine T_aload_nN (pc1 := 49) (pc := 48) k_M_comes_48 rfl rfl ?_
    | refine T_getR (pc1 := 52) (pc := 49) k_M_comes_49 rfl f_M_9 rfl (by first | exact ga G (by decide) rfl | assumption) (by first | exact gr G (by decide) rfl | assumption) ?_
    | refine T_iload (pc1 := 54) (pc := 52) k_M_comes_52 rfl rfl ?_
    | refine T_iconst (v := (nI 3)) (pc1 := 55) (pc := 54) k_M_comes_54 rfl (by decide) ?_
    | with_reducible refine T_iaddN (pc1 := 56) (pc := 55) k_M_comes_55 (by decide) ?_
    | refine T_iadd (pc1 := 56) (pc := 55) k_M_comes_55 rfl ?_
    | refine T_iload (pc1 := 58) (pc := 56) k_M_comes_56 rfl rfl ?_
    | refine T_iastN (pc1 := 59) (pc := 58) k_M_comes_58 rfl (by first | exact ga G (by decide) rfl | assumption) (by omega) (by omega) ?_
    | refine T_aload_n (pc1 := 60) (pc := 59) k_M_comes_59 rfl rfl ?_
    | refine T_aload_nN (pc1 := 60) (pc := 59) k_M_comes_59 rfl rfl ?_
    | refine T_getR (pc1 := 63) (pc := 60) k_M_comes_60 rfl f_M_9 rfl (by first | exact ga G (by decide) rfl | assumption) (by first | exact gr G (by decide) rfl | assumption) ?_
    | refine T_iload (pc1 := 65) (pc := 63) k_M_comes_63 rfl rfl ?_
    | refine T_iconst (v := (nI 4)) (pc1 := 66) (pc := 65) k_M_comes_65 rfl (by decide) ?_
    | with_reducible refine T_iaddN (pc1 := 67) (pc := 66) k_M_comes_66 (by decide) ?_
    | refine T_iadd (pc1 := 67) (pc := 66) k_M_comes_66 rfl ?_
    | refine T_iconst (v := (nI 0)) (pc1 := 68) (pc := 67) k_M_comes_67 rfl (by decide) ?_
    | refine T_iastN (pc1 := 69) (pc := 68) k_M_comes_68 rfl (by first | exact ga G (by decide) rfl | assumption) (by omega) (by omega) ?_
    | refine T_aload_n (pc1 := 70) (pc := 69) k_M_comes_69 rfl rfl ?_
    | refine T_aload_nN (pc1 := 70) (pc := 69) k_M_comes_69 rfl rfl ?_
    | refine T_getR (pc1 := 73) (pc := 70) k_M_comes_70 rfl f_M_9 rfl (by first | exact ga G (by decide) rfl | assumption) (by first | exact gr G (by decide) rfl | assumption) ?_
    | refine T_iload (pc1 := 75) (pc := 73) k_M_comes_73 rfl rfl ?_
    | refine T_iconst (v := (nI 5)) (pc1 := 76) (pc := 75) k_M_comes_75 rfl (by decide) ?_
    | with_reducible refine T_iaddN (pc1 := 77) (pc := 76) k_M_comes_76 (by decide) ?_
    | refine T_iadd (pc1 := 77) (pc := 76) k_M_comes_76 rfl ?_
    | refine T_ldc (v := (-1000000005)) (pc1 := 79) (pc := 77) k_M_comes_77 rfl c_M_103 ?_
    | refine T_iastN (pc1 := 80) (pc := 79) k_M_comes_79 rfl (by first | exact ga G (by decide) rfl | assumption) (by omega) (by omega) ?_
    | refine T_aload_n (pc1 := 81) (pc := 80) k_M_comes_80 rfl rfl ?_
    | refine T_aload_nN (pc1 := 81) (pc := 80) k_M_comes_80 rfl rfl ?_
    | refine T_getR (pc1 := 84) (pc := 81) k_M_comes_81 rfl f_M_9 rfl (by first | exact ga G (by decide) rfl | assumption) (by first | exact gr G (by decide) rfl | assumption) ?_
    | refine T_iconst (v := (nI 5)) (pc1 := 85) (pc := 84) k_M_comes_84 rfl (by decide) ?_
    | refine T_dup2 (pc1 := 86) (pc := 85) k_M_comes_85 rfl rfl rfl ?_
    | refine T_ialdN (pc1 := 87) (pc := 86) k_M_comes_86 rfl (by first | exact ga G (by decide) rfl | assumption) (by omega) (by omega) (by first | assumption | (simp (disch := omega) only [pI_eq, pI_row, pI_col, va_up_self, va_up_ne, ne_eq, not_false_eq_true, hN, h5] <;> rfl) | rfl) ?_
    | refine T_iald (pc1 := 87) (pc := 86) k_M_comes_86 rfl (by first | exact ga G (by decide) rfl | assumption) (by assumption) ?_
    | refine T_iconst (v := (nI 1)) (pc1 := 88) (pc := 87) k_M_comes_87 rfl (by decide) ?_
    | with_reducible refine T_iaddN (pc1 := 89) (pc := 88) k_M_comes_88 (by decide) ?_
    | refine T_iadd (pc1 := 89) (pc := 88) k_M_comes_88 rfl ?_
    | refine T_iastN (pc1 := 90) (pc := 89) k_M_comes_89 rfl (by first | exact ga G (by decide) rfl | assumption) (by omega) (by omega) ?_
    | refine T_iload (pc1 := 92) (pc := 90) k_M_comes_90 rfl rfl ?_
    | refine T_retI (pc := 92) k_M_comes_92 rfl (by first | rfl | decide | assumption) ?_)
  refine kk _ (eqx_pI (eqx_pI (eqx_pI (eqx_pI (eqx_pI (eqx_pI (eqx_pI eqx_rf _ (by decide)) _ (by decide)) _ (by decide)) _ (by decide)) _ (by decide)) _ (by decide)) _ (by decide)) ?_
  exact upI (upI (upI (upI (upI (upI (upI hN))))))
theorem c_M_bit {N : Row} {n : Nat} {k f t l : Int32} (G : GeoOK g) (hN : I 102 = N) (h5 : N 5 = nI n) (hn : n ≤ 14) (kk : ∀ J r, eqx [102] I J → J 102 = bitN N n k f t l → r = bitA n k f t l → K (some (.int r)) g J) : Cl 4 M_M_bit [.ref 101, .int k, .int f, .int t, .int l] g I K := by
  show Rl 4 M_M_bit 0 [some (.ref 101), some (.int k), some (.int f), some (.int t), some (.int l)] [] g I K
  have e1 : (nI 1).toInt = 1 := rfl
  have e99 : (nI 99).toInt = 99 := rfl
  have kn : ¬ okBit k f t l → K (some (.int cBAD)) g I := fun h => kk I _ eqx_rf (by rw [bitN, if_neg (fun q => h q.1)]; exact hN) (by rw [bitA, if_neg h])
  repeat' (first
    | refine T_iload_n (pc1 := 1) (pc := 0) k_M_bit_0 rfl rfl ?_
    | (refine T_cS (As := [_]) (d1 := 2) (pc1 := 4) (pc := 1) k_M_bit_1 rfl (by decide) (Nat.le_of_ble_eq_true rfl) rfl o_M_isKind l_M_104 rfl (c_M_isKind (fun hw => ?_) (fun hw => ?_)) <;> try dsimp only [psh])
    | (with_reducible refine T_if_eqN (tgt := 31) (pc1 := 7) (pc := 4) k_M_bit_4 (by decide) (by decide) (by omega) (fun hc => ?_) (fun hc => ?_) <;> first | (exfalso; omega) | skip)
    | refine T_if_eq_t (tgt := 31) (pc := 4) k_M_bit_4 rfl (by decide) ?_
    | refine T_if_eq_f (tgt := 31) (pc1 := 7) (pc := 4) k_M_bit_4 rfl rfl (by decide) ?_
    | refine T_if_eq (tgt := 31) (pc1 := 7) (pc := 4) k_M_bit_4 rfl rfl (fun hc => ?_) (fun hc => ?_)
    | refine T_iload_n (pc1 := 8) (pc := 7) k_M_bit_7 rfl rfl ?_
    | refine T_iload_n (pc1 := 9) (pc := 8) k_M_bit_8 rfl rfl ?_
    | (refine T_cS (As := [_, _]) (d1 := 3) (pc1 := 12) (pc := 9) k_M_bit_9 rfl (by decide) (Nat.le_of_ble_eq_true rfl) rfl o_M_areSpots l_M_107 rfl (c_M_areSpots (fun hw => ?_) (fun hw => ?_)) <;> try dsimp only [psh])
    | (with_reducible refine T_if_eqN (tgt := 31) (pc1 := 15) (pc := 12) k_M_bit_12 (by decide) (by decide) (by omega) (fun hc => ?_) (fun hc => ?_) <;> first | (exfalso; omega) | skip)
    | refine T_if_eq_t (tgt := 31) (pc := 12) k_M_bit_12 rfl (by decide) ?_
    | refine T_if_eq_f (tgt := 31) (pc1 := 15) (pc := 12) k_M_bit_12 rfl rfl (by decide) ?_
    | refine T_if_eq (tgt := 31) (pc1 := 15) (pc := 12) k_M_bit_12 rfl rfl (fun hc => ?_) (fun hc => ?_)
    | refine T_iload_n (pc1 := 16) (pc := 15) k_M_bit_15 rfl rfl ?_
    | refine T_iload_n (pc1 := 17) (pc := 16) k_M_bit_16 rfl rfl ?_
    | (with_reducible refine T_icmp_eqN (tgt := 31) (pc1 := 20) (pc := 17) k_M_bit_17 (by decide) (by decide) (by omega) (by omega) (fun hc => ?_) (fun hc => ?_) <;> first | (exfalso; omega) | skip)
    | refine T_icmp_eq_t (tgt := 31) (pc := 17) k_M_bit_17 rfl (by decide) ?_
    | refine T_icmp_eq_f (tgt := 31) (pc1 := 20) (pc := 17) k_M_bit_17 rfl rfl (by decide) ?_
    | refine T_icmp_eq (tgt := 31) (pc1 := 20) (pc := 17) k_M_bit_17 rfl rfl (fun hc => ?_) (fun hc => ?_)
    | refine T_iload (pc1 := 22) (pc := 20) k_M_bit_20 rfl rfl ?_
    | refine T_iconst (v := (nI 1)) (pc1 := 23) (pc := 22) k_M_bit_22 rfl (by decide) ?_
    | refine T_bipush (v := (nI 99)) (pc1 := 25) (pc := 23) k_M_bit_23 rfl (by decide) ?_
    | (refine T_cS (As := [_, _, _]) (d1 := 1) (pc1 := 28) (pc := 25) k_M_bit_25 rfl (by decide) (Nat.le_of_ble_eq_true rfl) rfl o_M_within l_M_95 rfl (c_M_within (fun hw => ?_) (fun hw => ?_)) <;> try dsimp only [psh])
    | (with_reducible refine T_if_neN (tgt := 34) (pc1 := 31) (pc := 28) k_M_bit_28 (by decide) (by decide) (by omega) (fun hc => ?_) (fun hc => ?_) <;> first | (exfalso; omega) | skip)
    | refine T_if_ne_t (tgt := 34) (pc := 28) k_M_bit_28 rfl (by decide) ?_
    | refine T_if_ne_f (tgt := 34) (pc1 := 31) (pc := 28) k_M_bit_28 rfl rfl (by decide) ?_
    | refine T_if_ne (tgt := 34) (pc1 := 31) (pc := 28) k_M_bit_28 rfl rfl (fun hc => ?_) (fun hc => ?_)
    | refine T_ldc (v := (-1000000001)) (pc1 := 33) (pc := 31) k_M_bit_31 rfl c_M_111 ?_
    | refine T_retI (pc := 33) k_M_bit_33 rfl (by first | rfl | decide | assumption) ?_
    | refine T_aload_n (pc1 := 35) (pc := 34) k_M_bit_34 rfl rfl ?_
    | refine T_aload_nN (pc1 := 35) (pc := 34) k_M_bit_34 rfl rfl ?_
    | refine T_getR (pc1 := 38) (pc := 35) k_M_bit_35 rfl f_M_9 rfl (by first | exact ga G (by decide) rfl | assumption) (by first | exact gr G (by decide) rfl | assumption) ?_
    | refine T_iconst (v := (nI 5)) (pc1 := 39) (pc := 38) k_M_bit_38 rfl (by decide) ?_
    | refine T_ialdN (pc1 := 40) (pc := 39) k_M_bit_39 rfl (by first | exact ga G (by decide) rfl | assumption) (by omega) (by omega) (by first | assumption | (simp (disch := omega) only [pI_eq, pI_row, pI_col, va_up_self, va_up_ne, ne_eq, not_false_eq_true, hN, h5] <;> rfl) | rfl) ?_
    | refine T_iald (pc1 := 40) (pc := 39) k_M_bit_39 rfl (by first | exact ga G (by decide) rfl | assumption) (by assumption) ?_
    | refine T_bipush (v := (nI 14)) (pc1 := 42) (pc := 40) k_M_bit_40 rfl (by decide) ?_
    | (with_reducible refine T_icmp_neN (tgt := 50) (pc1 := 45) (pc := 42) k_M_bit_42 (by decide) (by decide) (by omega) (by omega) (fun hc => ?_) (fun hc => ?_) <;> first | (exfalso; omega) | skip)
    | refine T_icmp_ne_t (tgt := 50) (pc := 42) k_M_bit_42 rfl (by decide) ?_
    | refine T_icmp_ne_f (tgt := 50) (pc1 := 45) (pc := 42) k_M_bit_42 rfl rfl (by decide) ?_
    | refine T_icmp_ne (tgt := 50) (pc1 := 45) (pc := 42) k_M_bit_42 rfl rfl (fun hc => ?_) (fun hc => ?_)
    | refine T_ldc (v := (-1000000003)) (pc1 := 47) (pc := 45) k_M_bit_45 rfl c_M_112 ?_
    | refine T_goto (tgt := 59) (pc := 47) k_M_bit_47 rfl ?_
    | refine T_aload_n (pc1 := 51) (pc := 50) k_M_bit_50 rfl rfl ?_
    | refine T_aload_nN (pc1 := 51) (pc := 50) k_M_bit_50 rfl rfl ?_
    | refine T_iload_n (pc1 := 52) (pc := 51) k_M_bit_51 rfl rfl ?_
    | refine T_iload_n (pc1 := 53) (pc := 52) k_M_bit_52 rfl rfl ?_
    | refine T_iload_n (pc1 := 54) (pc := 53) k_M_bit_53 rfl rfl ?_
    | refine T_iload (pc1 := 56) (pc := 54) k_M_bit_54 rfl rfl ?_
    | (refine T_cV (As := [_, _, _, _]) (d1 := 1) (pc1 := 59) (pc := 56) k_M_bit_56 rfl (by decide) (Nat.le_of_ble_eq_true rfl) rfl o_M_comes l_M_113 rfl (by first | exact ga G (by decide) rfl | assumption) rfl (c_M_comes G (by assumption) (by assumption) (by omega) (fun J hJ hJ2 => ?_)) <;> try dsimp only [psh])
    | refine T_retI (pc := 59) k_M_bit_59 rfl (by first | rfl | decide | assumption) ?_)
  all_goals try exact kn (fun q => by obtain ⟨⟨a1, a2⟩, ⟨⟨a3, a4⟩, a5, a6⟩, a7, a8, a9⟩ := q; first | contradiction | omega)
  · have ok : okBit k f t l := ⟨by assumption, by assumption, by assumption, by constructor <;> omega⟩
    exact kk J _ hJ (by rw [bitN, if_pos ⟨ok, by assumption⟩]; exact hJ2) (by rw [bitA, if_pos ok, if_neg (by assumption)])
  · have ok : okBit k f t l := ⟨by assumption, by assumption, by assumption, by constructor <;> omega⟩
    exact kk I _ eqx_rf (by rw [bitN, if_neg (fun q => q.2 (by omega))]; exact hN) (by rw [bitA, if_pos ok, if_pos (by omega)])
theorem c_M_as {N : Row} {n tn : Nat} {b k : Int32} (G : GeoOK g) (hN : I 102 = N) (ok : okL N n tn) (kk : ∀ r, r = asA N n b k → K (some (.int r)) g I) : Cl 3 M_M_as [.ref 101, .int b, .int k] g I K := by
  show Rl 3 M_M_as 0 [some (.ref 101), some (.int b), some (.int k)] [] g I K
  obtain ⟨hn, h14, -⟩ := id ok
  by_cases hb : rg n b
  · obtain ⟨j, hj, rfl⟩ := rg_of hb (by omega)
    obtain ⟨k0, o, t, l, r, h0, hk, -, -, -, -, -, h3, -⟩ := ok.2.2.2.2.1 j hj
    by_cases hk2 : rg 6 k
    · obtain ⟨q, hq, rfl⟩ := rg_of hk2 (by omega)
      have e : asA N n (nI j) (nI q) = if und k0 q = true then nI l else cKIND := by
        rw [asA, if_pos ⟨hb, hk2⟩, nI_clamp (by omega), nI_clamp (by omega), h0, h3, nI_clamp (by omega)]
      rw [e] at kk
      repeat' (first
        | refine T_aload_n (pc1 := 1) (pc := 0) k_M_as_0 rfl rfl ?_
        | refine T_aload_nN (pc1 := 1) (pc := 0) k_M_as_0 rfl rfl ?_
        | refine T_iload_n (pc1 := 2) (pc := 1) k_M_as_1 rfl rfl ?_
        | (refine T_cV (As := [_]) (d1 := 2) (pc1 := 5) (pc := 2) k_M_as_2 rfl (by decide) (Nat.le_of_ble_eq_true rfl) rfl o_M_isBit l_M_140 rfl (by first | exact ga G (by decide) rfl | assumption) rfl (c_M_isBit G hN hn h14 (fun hw => ?_) (fun hw => ?_)) <;> try dsimp only [psh])
        | (with_reducible refine T_if_eqN (tgt := 15) (pc1 := 8) (pc := 5) k_M_as_5 (by decide) (by decide) (by omega) (fun hc => ?_) (fun hc => ?_) <;> first | (exfalso; omega) | skip)
        | refine T_if_eq_t (tgt := 15) (pc := 5) k_M_as_5 rfl (by decide) ?_
        | refine T_if_eq_f (tgt := 15) (pc1 := 8) (pc := 5) k_M_as_5 rfl rfl (by decide) ?_
        | refine T_if_eq (tgt := 15) (pc1 := 8) (pc := 5) k_M_as_5 rfl rfl (fun hc => ?_) (fun hc => ?_)
        | refine T_iload_n (pc1 := 9) (pc := 8) k_M_as_8 rfl rfl ?_
        | (refine T_cS (As := [_]) (d1 := 2) (pc1 := 12) (pc := 9) k_M_as_9 rfl (by decide) (Nat.le_of_ble_eq_true rfl) rfl o_M_isKind l_M_104 rfl (c_M_isKind (fun hw => ?_) (fun hw => ?_)) <;> try dsimp only [psh])
        | (with_reducible refine T_if_neN (tgt := 18) (pc1 := 15) (pc := 12) k_M_as_12 (by decide) (by decide) (by omega) (fun hc => ?_) (fun hc => ?_) <;> first | (exfalso; omega) | skip)
        | refine T_if_ne_t (tgt := 18) (pc := 12) k_M_as_12 rfl (by decide) ?_
        | refine T_if_ne_f (tgt := 18) (pc1 := 15) (pc := 12) k_M_as_12 rfl rfl (by decide) ?_
        | refine T_if_ne (tgt := 18) (pc1 := 15) (pc := 12) k_M_as_12 rfl rfl (fun hc => ?_) (fun hc => ?_)
        | refine T_ldc (v := (-1000000001)) (pc1 := 17) (pc := 15) k_M_as_15 rfl c_M_111 ?_
        | refine T_retI (pc := 17) k_M_as_17 rfl (by first | rfl | decide | assumption) ?_
        | refine T_aload_n (pc1 := 19) (pc := 18) k_M_as_18 rfl rfl ?_
        | refine T_aload_nN (pc1 := 19) (pc := 18) k_M_as_18 rfl rfl ?_
        | refine T_iload_n (pc1 := 20) (pc := 19) k_M_as_19 rfl rfl ?_
        | refine T_iconst (v := (nI 0)) (pc1 := 21) (pc := 20) k_M_as_20 rfl (by decide) ?_
        | (refine T_cV (As := [_, _]) (d1 := 1) (pc1 := 24) (pc := 21) k_M_as_21 rfl (by decide) (Nat.le_of_ble_eq_true rfl) rfl o_M_bitIs l_M_124 rfl (by first | exact ga G (by decide) rfl | assumption) rfl (c_M_bitN G (by assumption) (by omega) (by omega) (by first | assumption | rfl) ?_) <;> try dsimp only [psh])
        | refine T_iload_n (pc1 := 25) (pc := 24) k_M_as_24 rfl rfl ?_
        | (refine T_cS (As := [_, _]) (d1 := 2) (pc1 := 28) (pc := 25) k_M_as_25 rfl (by decide) (Nat.le_of_ble_eq_true rfl) rfl o_M_isUnder l_M_137 rfl (c_M_isUnder (by omega) (by omega) (fun hu => ?_) (fun hu => ?_)) <;> try dsimp only [psh])
        | (with_reducible refine T_if_eqN (tgt := 40) (pc1 := 31) (pc := 28) k_M_as_28 (by decide) (by decide) (by omega) (fun hc => ?_) (fun hc => ?_) <;> first | (exfalso; omega) | skip)
        | refine T_if_eq_t (tgt := 40) (pc := 28) k_M_as_28 rfl (by decide) ?_
        | refine T_if_eq_f (tgt := 40) (pc1 := 31) (pc := 28) k_M_as_28 rfl rfl (by decide) ?_
        | refine T_if_eq (tgt := 40) (pc1 := 31) (pc := 28) k_M_as_28 rfl rfl (fun hc => ?_) (fun hc => ?_)
        | refine T_aload_n (pc1 := 32) (pc := 31) k_M_as_31 rfl rfl ?_
        | refine T_aload_nN (pc1 := 32) (pc := 31) k_M_as_31 rfl rfl ?_
        | refine T_iload_n (pc1 := 33) (pc := 32) k_M_as_32 rfl rfl ?_
        | refine T_iconst (v := (nI 3)) (pc1 := 34) (pc := 33) k_M_as_33 rfl (by decide) ?_
        | (refine T_cV (As := [_, _]) (d1 := 1) (pc1 := 37) (pc := 34) k_M_as_34 rfl (by decide) (Nat.le_of_ble_eq_true rfl) rfl o_M_bitIs l_M_124 rfl (by first | exact ga G (by decide) rfl | assumption) rfl (c_M_bitN G (by assumption) (by omega) (by omega) (by first | assumption | rfl) ?_) <;> try dsimp only [psh])
        | refine T_goto (tgt := 42) (pc := 37) k_M_as_37 rfl ?_
        | refine T_ldc (v := (-1000000012)) (pc1 := 42) (pc := 40) k_M_as_40 rfl c_M_155 ?_
        | refine T_retI (pc := 42) k_M_as_42 rfl (by first | rfl | decide | assumption) ?_)
      all_goals first | exact kk _ (by simp_all) | (exfalso; exact absurd hk2 (by assumption)) | (exfalso; exact absurd hb (by assumption))
    · have e : asA N n (nI j) k = cBAD := by rw [asA, if_neg (fun q => hk2 q.2)]
      rw [e] at kk
      repeat' (first
        | refine T_aload_n (pc1 := 1) (pc := 0) k_M_as_0 rfl rfl ?_
        | refine T_aload_nN (pc1 := 1) (pc := 0) k_M_as_0 rfl rfl ?_
        | refine T_iload_n (pc1 := 2) (pc := 1) k_M_as_1 rfl rfl ?_
        | (refine T_cV (As := [_]) (d1 := 2) (pc1 := 5) (pc := 2) k_M_as_2 rfl (by decide) (Nat.le_of_ble_eq_true rfl) rfl o_M_isBit l_M_140 rfl (by first | exact ga G (by decide) rfl | assumption) rfl (c_M_isBit G hN hn h14 (fun hw => ?_) (fun hw => ?_)) <;> try dsimp only [psh])
        | (with_reducible refine T_if_eqN (tgt := 15) (pc1 := 8) (pc := 5) k_M_as_5 (by decide) (by decide) (by omega) (fun hc => ?_) (fun hc => ?_) <;> first | (exfalso; omega) | skip)
        | refine T_if_eq_t (tgt := 15) (pc := 5) k_M_as_5 rfl (by decide) ?_
        | refine T_if_eq_f (tgt := 15) (pc1 := 8) (pc := 5) k_M_as_5 rfl rfl (by decide) ?_
        | refine T_if_eq (tgt := 15) (pc1 := 8) (pc := 5) k_M_as_5 rfl rfl (fun hc => ?_) (fun hc => ?_)
        | refine T_iload_n (pc1 := 9) (pc := 8) k_M_as_8 rfl rfl ?_
        | (refine T_cS (As := [_]) (d1 := 2) (pc1 := 12) (pc := 9) k_M_as_9 rfl (by decide) (Nat.le_of_ble_eq_true rfl) rfl o_M_isKind l_M_104 rfl (c_M_isKind (fun hw => ?_) (fun hw => ?_)) <;> try dsimp only [psh])
        | (with_reducible refine T_if_neN (tgt := 18) (pc1 := 15) (pc := 12) k_M_as_12 (by decide) (by decide) (by omega) (fun hc => ?_) (fun hc => ?_) <;> first | (exfalso; omega) | skip)
        | refine T_if_ne_t (tgt := 18) (pc := 12) k_M_as_12 rfl (by decide) ?_
        | refine T_if_ne_f (tgt := 18) (pc1 := 15) (pc := 12) k_M_as_12 rfl rfl (by decide) ?_
        | refine T_if_ne (tgt := 18) (pc1 := 15) (pc := 12) k_M_as_12 rfl rfl (fun hc => ?_) (fun hc => ?_)
        | refine T_ldc (v := (-1000000001)) (pc1 := 17) (pc := 15) k_M_as_15 rfl c_M_111 ?_
        | refine T_retI (pc := 17) k_M_as_17 rfl (by first | rfl | decide | assumption) ?_
        | refine T_aload_n (pc1 := 19) (pc := 18) k_M_as_18 rfl rfl ?_
        | refine T_aload_nN (pc1 := 19) (pc := 18) k_M_as_18 rfl rfl ?_
        | refine T_iload_n (pc1 := 20) (pc := 19) k_M_as_19 rfl rfl ?_
        | refine T_iconst (v := (nI 0)) (pc1 := 21) (pc := 20) k_M_as_20 rfl (by decide) ?_
        | (refine T_cV (As := [_, _]) (d1 := 1) (pc1 := 24) (pc := 21) k_M_as_21 rfl (by decide) (Nat.le_of_ble_eq_true rfl) rfl o_M_bitIs l_M_124 rfl (by first | exact ga G (by decide) rfl | assumption) rfl (c_M_bitN G (by assumption) (by omega) (by omega) (by first | assumption | rfl) ?_) <;> try dsimp only [psh])
        | refine T_iload_n (pc1 := 25) (pc := 24) k_M_as_24 rfl rfl ?_
        | (refine T_cS (As := [_, _]) (d1 := 2) (pc1 := 28) (pc := 25) k_M_as_25 rfl (by decide) (Nat.le_of_ble_eq_true rfl) rfl o_M_isUnder l_M_137 rfl (c_M_isUnder (by omega) (by omega) (fun hu => ?_) (fun hu => ?_)) <;> try dsimp only [psh])
        | (with_reducible refine T_if_eqN (tgt := 40) (pc1 := 31) (pc := 28) k_M_as_28 (by decide) (by decide) (by omega) (fun hc => ?_) (fun hc => ?_) <;> first | (exfalso; omega) | skip)
        | refine T_if_eq_t (tgt := 40) (pc := 28) k_M_as_28 rfl (by decide) ?_
        | refine T_if_eq_f (tgt := 40) (pc1 := 31) (pc := 28) k_M_as_28 rfl rfl (by decide) ?_
        | refine T_if_eq (tgt := 40) (pc1 := 31) (pc := 28) k_M_as_28 rfl rfl (fun hc => ?_) (fun hc => ?_)
        | refine T_aload_n (pc1 := 32) (pc := 31) k_M_as_31 rfl rfl ?_
        | refine T_aload_nN (pc1 := 32) (pc := 31) k_M_as_31 rfl rfl ?_
        | refine T_iload_n (pc1 := 33) (pc := 32) k_M_as_32 rfl rfl ?_
        | refine T_iconst (v := (nI 3)) (pc1 := 34) (pc := 33) k_M_as_33 rfl (by decide) ?_
        | (refine T_cV (As := [_, _]) (d1 := 1) (pc1 := 37) (pc := 34) k_M_as_34 rfl (by decide) (Nat.le_of_ble_eq_true rfl) rfl o_M_bitIs l_M_124 rfl (by first | exact ga G (by decide) rfl | assumption) rfl (c_M_bitN G (by assumption) (by omega) (by omega) (by first | assumption | rfl) ?_) <;> try dsimp only [psh])
        | refine T_goto (tgt := 42) (pc := 37) k_M_as_37 rfl ?_
        | refine T_ldc (v := (-1000000012)) (pc1 := 42) (pc := 40) k_M_as_40 rfl c_M_155 ?_
        | refine T_retI (pc := 42) k_M_as_42 rfl (by first | rfl | decide | assumption) ?_)
      all_goals first | exact kk _ rfl | (exfalso; exact absurd (by assumption) hk2)
  · have e : asA N n b k = cBAD := by rw [asA, if_neg (fun q => hb q.1)]
    rw [e] at kk
    repeat' (first
      | refine T_aload_n (pc1 := 1) (pc := 0) k_M_as_0 rfl rfl ?_
      | refine T_aload_nN (pc1 := 1) (pc := 0) k_M_as_0 rfl rfl ?_
      | refine T_iload_n (pc1 := 2) (pc := 1) k_M_as_1 rfl rfl ?_
      | (refine T_cV (As := [_]) (d1 := 2) (pc1 := 5) (pc := 2) k_M_as_2 rfl (by decide) (Nat.le_of_ble_eq_true rfl) rfl o_M_isBit l_M_140 rfl (by first | exact ga G (by decide) rfl | assumption) rfl (c_M_isBit G hN hn h14 (fun hw => ?_) (fun hw => ?_)) <;> try dsimp only [psh])
      | (with_reducible refine T_if_eqN (tgt := 15) (pc1 := 8) (pc := 5) k_M_as_5 (by decide) (by decide) (by omega) (fun hc => ?_) (fun hc => ?_) <;> first | (exfalso; omega) | skip)
      | refine T_if_eq_t (tgt := 15) (pc := 5) k_M_as_5 rfl (by decide) ?_
      | refine T_if_eq_f (tgt := 15) (pc1 := 8) (pc := 5) k_M_as_5 rfl rfl (by decide) ?_
      | refine T_if_eq (tgt := 15) (pc1 := 8) (pc := 5) k_M_as_5 rfl rfl (fun hc => ?_) (fun hc => ?_)
      | refine T_iload_n (pc1 := 9) (pc := 8) k_M_as_8 rfl rfl ?_
      | (refine T_cS (As := [_]) (d1 := 2) (pc1 := 12) (pc := 9) k_M_as_9 rfl (by decide) (Nat.le_of_ble_eq_true rfl) rfl o_M_isKind l_M_104 rfl (c_M_isKind (fun hw => ?_) (fun hw => ?_)) <;> try dsimp only [psh])
      | (with_reducible refine T_if_neN (tgt := 18) (pc1 := 15) (pc := 12) k_M_as_12 (by decide) (by decide) (by omega) (fun hc => ?_) (fun hc => ?_) <;> first | (exfalso; omega) | skip)
      | refine T_if_ne_t (tgt := 18) (pc := 12) k_M_as_12 rfl (by decide) ?_
      | refine T_if_ne_f (tgt := 18) (pc1 := 15) (pc := 12) k_M_as_12 rfl rfl (by decide) ?_
      | refine T_if_ne (tgt := 18) (pc1 := 15) (pc := 12) k_M_as_12 rfl rfl (fun hc => ?_) (fun hc => ?_)
      | refine T_ldc (v := (-1000000001)) (pc1 := 17) (pc := 15) k_M_as_15 rfl c_M_111 ?_
      | refine T_retI (pc := 17) k_M_as_17 rfl (by first | rfl | decide | assumption) ?_
      | refine T_aload_n (pc1 := 19) (pc := 18) k_M_as_18 rfl rfl ?_
      | refine T_aload_nN (pc1 := 19) (pc := 18) k_M_as_18 rfl rfl ?_
      | refine T_iload_n (pc1 := 20) (pc := 19) k_M_as_19 rfl rfl ?_
      | refine T_iconst (v := (nI 0)) (pc1 := 21) (pc := 20) k_M_as_20 rfl (by decide) ?_
      | (refine T_cV (As := [_, _]) (d1 := 1) (pc1 := 24) (pc := 21) k_M_as_21 rfl (by decide) (Nat.le_of_ble_eq_true rfl) rfl o_M_bitIs l_M_124 rfl (by first | exact ga G (by decide) rfl | assumption) rfl (c_M_bitN G (by assumption) (by omega) (by omega) (by first | assumption | rfl) ?_) <;> try dsimp only [psh])
      | refine T_iload_n (pc1 := 25) (pc := 24) k_M_as_24 rfl rfl ?_
      | (refine T_cS (As := [_, _]) (d1 := 2) (pc1 := 28) (pc := 25) k_M_as_25 rfl (by decide) (Nat.le_of_ble_eq_true rfl) rfl o_M_isUnder l_M_137 rfl (c_M_isUnder (by omega) (by omega) (fun hu => ?_) (fun hu => ?_)) <;> try dsimp only [psh])
      | (with_reducible refine T_if_eqN (tgt := 40) (pc1 := 31) (pc := 28) k_M_as_28 (by decide) (by decide) (by omega) (fun hc => ?_) (fun hc => ?_) <;> first | (exfalso; omega) | skip)
      | refine T_if_eq_t (tgt := 40) (pc := 28) k_M_as_28 rfl (by decide) ?_
      | refine T_if_eq_f (tgt := 40) (pc1 := 31) (pc := 28) k_M_as_28 rfl rfl (by decide) ?_
      | refine T_if_eq (tgt := 40) (pc1 := 31) (pc := 28) k_M_as_28 rfl rfl (fun hc => ?_) (fun hc => ?_)
      | refine T_aload_n (pc1 := 32) (pc := 31) k_M_as_31 rfl rfl ?_
      | refine T_aload_nN (pc1 := 32) (pc := 31) k_M_as_31 rfl rfl ?_
      | refine T_iload_n (pc1 := 33) (pc := 32) k_M_as_32 rfl rfl ?_
      | refine T_iconst (v := (nI 3)) (pc1 := 34) (pc := 33) k_M_as_33 rfl (by decide) ?_
      | (refine T_cV (As := [_, _]) (d1 := 1) (pc1 := 37) (pc := 34) k_M_as_34 rfl (by decide) (Nat.le_of_ble_eq_true rfl) rfl o_M_bitIs l_M_124 rfl (by first | exact ga G (by decide) rfl | assumption) rfl (c_M_bitN G (by assumption) (by omega) (by omega) (by first | assumption | rfl) ?_) <;> try dsimp only [psh])
      | refine T_goto (tgt := 42) (pc := 37) k_M_as_37 rfl ?_
      | refine T_ldc (v := (-1000000012)) (pc1 := 42) (pc := 40) k_M_as_40 rfl c_M_155 ?_
      | refine T_retI (pc := 42) k_M_as_42 rfl (by first | rfl | decide | assumption) ?_)
    all_goals first | exact kk _ rfl | (exfalso; exact absurd (by assumption) hb)
theorem c_M_turns {N : Row} {n tn : Nat} {b k : Int32} (G : GeoOK g) (hN : I 102 = N) (ok : okL N n tn) (kk : ∀ J r, eqx [102] I J → J 102 = turnsN N n b k → r = turnsA N n b k → K (some (.int r)) g J) : Cl 3 M_M_turns [.ref 101, .int b, .int k] g I K := by
  show Rl 3 M_M_turns 0 [some (.ref 101), some (.int b), some (.int k)] [] g I K
  obtain ⟨hn, h14, -⟩ := id ok
  by_cases hok : rg n b ∧ rg 6 k
  · obtain ⟨hb, hk2⟩ := hok
    rw [turnsN, turnsA, if_pos ⟨hb, hk2⟩, if_pos ⟨hb, hk2⟩] at kk
    obtain ⟨j, hj, rfl⟩ := rg_of hb (by omega)
    rw [nI_clamp (by omega)] at kk
    repeat' (first
      | refine T_aload_n (pc1 := 1) (pc := 0) k_M_turns_0 rfl rfl ?_
      | refine T_aload_nN (pc1 := 1) (pc := 0) k_M_turns_0 rfl rfl ?_
      | refine T_iload_n (pc1 := 2) (pc := 1) k_M_turns_1 rfl rfl ?_
      | (refine T_cV (As := [_]) (d1 := 2) (pc1 := 5) (pc := 2) k_M_turns_2 rfl (by decide) (Nat.le_of_ble_eq_true rfl) rfl o_M_isBit l_M_140 rfl (by first | exact ga G (by decide) rfl | assumption) rfl (c_M_isBit G hN hn h14 (fun hw => ?_) (fun hw => ?_)) <;> try dsimp only [psh])
      | (with_reducible refine T_if_eqN (tgt := 32) (pc1 := 8) (pc := 5) k_M_turns_5 (by decide) (by decide) (by omega) (fun hc => ?_) (fun hc => ?_) <;> first | (exfalso; omega) | skip)
      | refine T_if_eq_t (tgt := 32) (pc := 5) k_M_turns_5 rfl (by decide) ?_
      | refine T_if_eq_f (tgt := 32) (pc1 := 8) (pc := 5) k_M_turns_5 rfl rfl (by decide) ?_
      | refine T_if_eq (tgt := 32) (pc1 := 8) (pc := 5) k_M_turns_5 rfl rfl (fun hc => ?_) (fun hc => ?_)
      | refine T_iload_n (pc1 := 9) (pc := 8) k_M_turns_8 rfl rfl ?_
      | (refine T_cS (As := [_]) (d1 := 2) (pc1 := 12) (pc := 9) k_M_turns_9 rfl (by decide) (Nat.le_of_ble_eq_true rfl) rfl o_M_isKind l_M_104 rfl (c_M_isKind (fun hw => ?_) (fun hw => ?_)) <;> try dsimp only [psh])
      | (with_reducible refine T_if_eqN (tgt := 32) (pc1 := 15) (pc := 12) k_M_turns_12 (by decide) (by decide) (by omega) (fun hc => ?_) (fun hc => ?_) <;> first | (exfalso; omega) | skip)
      | refine T_if_eq_t (tgt := 32) (pc := 12) k_M_turns_12 rfl (by decide) ?_
      | refine T_if_eq_f (tgt := 32) (pc1 := 15) (pc := 12) k_M_turns_12 rfl rfl (by decide) ?_
      | refine T_if_eq (tgt := 32) (pc1 := 15) (pc := 12) k_M_turns_12 rfl rfl (fun hc => ?_) (fun hc => ?_)
      | refine T_aload_n (pc1 := 16) (pc := 15) k_M_turns_15 rfl rfl ?_
      | refine T_aload_nN (pc1 := 16) (pc := 15) k_M_turns_15 rfl rfl ?_
      | refine T_bipush (v := (nI 12)) (pc1 := 18) (pc := 16) k_M_turns_16 rfl (by decide) ?_
      | refine T_bipush (v := (nI 6)) (pc1 := 20) (pc := 18) k_M_turns_18 rfl (by decide) ?_
      | refine T_iload_n (pc1 := 21) (pc := 20) k_M_turns_20 rfl rfl ?_
      | with_reducible refine T_imulN (pc1 := 22) (pc := 21) k_M_turns_21 (by decide) ?_
      | refine T_imul (pc1 := 22) (pc := 21) k_M_turns_21 rfl ?_
      | with_reducible refine T_iaddN (pc1 := 23) (pc := 22) k_M_turns_22 (by decide) ?_
      | refine T_iadd (pc1 := 23) (pc := 22) k_M_turns_22 rfl ?_
      | refine T_iconst (v := (nI 0)) (pc1 := 24) (pc := 23) k_M_turns_23 rfl (by decide) ?_
      | with_reducible refine T_iaddN (pc1 := 25) (pc := 24) k_M_turns_24 (by decide) ?_
      | refine T_iadd (pc1 := 25) (pc := 24) k_M_turns_24 rfl ?_
      | refine T_iload_n (pc1 := 26) (pc := 25) k_M_turns_25 rfl rfl ?_
      | (refine T_cV (As := [_, _]) (d1 := 1) (pc1 := 29) (pc := 26) k_M_turns_26 rfl (by decide) (Nat.le_of_ble_eq_true rfl) rfl o_M_become l_M_156 rfl (by first | exact ga G (by decide) rfl | assumption) rfl (c_M_become G (by omega) ?_) <;> try dsimp only [psh])
      | refine T_goto (tgt := 34) (pc := 29) k_M_turns_29 rfl ?_
      | refine T_ldc (v := (-1000000001)) (pc1 := 34) (pc := 32) k_M_turns_32 rfl c_M_111 ?_
      | refine T_retI (pc := 34) k_M_turns_34 rfl (by first | rfl | decide | assumption) ?_)
    all_goals first | exact kk _ _ (eqx_pI eqx_rf _ (by decide)) (upI hN) (by rw [hN]; rfl) | (exfalso; contradiction)
  · rw [turnsN, turnsA, if_neg hok, if_neg hok] at kk
    repeat' (first
      | refine T_aload_n (pc1 := 1) (pc := 0) k_M_turns_0 rfl rfl ?_
      | refine T_aload_nN (pc1 := 1) (pc := 0) k_M_turns_0 rfl rfl ?_
      | refine T_iload_n (pc1 := 2) (pc := 1) k_M_turns_1 rfl rfl ?_
      | (refine T_cV (As := [_]) (d1 := 2) (pc1 := 5) (pc := 2) k_M_turns_2 rfl (by decide) (Nat.le_of_ble_eq_true rfl) rfl o_M_isBit l_M_140 rfl (by first | exact ga G (by decide) rfl | assumption) rfl (c_M_isBit G hN hn h14 (fun hw => ?_) (fun hw => ?_)) <;> try dsimp only [psh])
      | (with_reducible refine T_if_eqN (tgt := 32) (pc1 := 8) (pc := 5) k_M_turns_5 (by decide) (by decide) (by omega) (fun hc => ?_) (fun hc => ?_) <;> first | (exfalso; omega) | skip)
      | refine T_if_eq_t (tgt := 32) (pc := 5) k_M_turns_5 rfl (by decide) ?_
      | refine T_if_eq_f (tgt := 32) (pc1 := 8) (pc := 5) k_M_turns_5 rfl rfl (by decide) ?_
      | refine T_if_eq (tgt := 32) (pc1 := 8) (pc := 5) k_M_turns_5 rfl rfl (fun hc => ?_) (fun hc => ?_)
      | refine T_iload_n (pc1 := 9) (pc := 8) k_M_turns_8 rfl rfl ?_
      | (refine T_cS (As := [_]) (d1 := 2) (pc1 := 12) (pc := 9) k_M_turns_9 rfl (by decide) (Nat.le_of_ble_eq_true rfl) rfl o_M_isKind l_M_104 rfl (c_M_isKind (fun hw => ?_) (fun hw => ?_)) <;> try dsimp only [psh])
      | (with_reducible refine T_if_eqN (tgt := 32) (pc1 := 15) (pc := 12) k_M_turns_12 (by decide) (by decide) (by omega) (fun hc => ?_) (fun hc => ?_) <;> first | (exfalso; omega) | skip)
      | refine T_if_eq_t (tgt := 32) (pc := 12) k_M_turns_12 rfl (by decide) ?_
      | refine T_if_eq_f (tgt := 32) (pc1 := 15) (pc := 12) k_M_turns_12 rfl rfl (by decide) ?_
      | refine T_if_eq (tgt := 32) (pc1 := 15) (pc := 12) k_M_turns_12 rfl rfl (fun hc => ?_) (fun hc => ?_)
      | refine T_aload_n (pc1 := 16) (pc := 15) k_M_turns_15 rfl rfl ?_
      | refine T_aload_nN (pc1 := 16) (pc := 15) k_M_turns_15 rfl rfl ?_
      | refine T_bipush (v := (nI 12)) (pc1 := 18) (pc := 16) k_M_turns_16 rfl (by decide) ?_
      | refine T_bipush (v := (nI 6)) (pc1 := 20) (pc := 18) k_M_turns_18 rfl (by decide) ?_
      | refine T_iload_n (pc1 := 21) (pc := 20) k_M_turns_20 rfl rfl ?_
      | with_reducible refine T_imulN (pc1 := 22) (pc := 21) k_M_turns_21 (by decide) ?_
      | refine T_imul (pc1 := 22) (pc := 21) k_M_turns_21 rfl ?_
      | with_reducible refine T_iaddN (pc1 := 23) (pc := 22) k_M_turns_22 (by decide) ?_
      | refine T_iadd (pc1 := 23) (pc := 22) k_M_turns_22 rfl ?_
      | refine T_iconst (v := (nI 0)) (pc1 := 24) (pc := 23) k_M_turns_23 rfl (by decide) ?_
      | with_reducible refine T_iaddN (pc1 := 25) (pc := 24) k_M_turns_24 (by decide) ?_
      | refine T_iadd (pc1 := 25) (pc := 24) k_M_turns_24 rfl ?_
      | refine T_iload_n (pc1 := 26) (pc := 25) k_M_turns_25 rfl rfl ?_
      | (refine T_cV (As := [_, _]) (d1 := 1) (pc1 := 29) (pc := 26) k_M_turns_26 rfl (by decide) (Nat.le_of_ble_eq_true rfl) rfl o_M_become l_M_156 rfl (by first | exact ga G (by decide) rfl | assumption) rfl (c_M_become G (by omega) ?_) <;> try dsimp only [psh])
      | refine T_goto (tgt := 34) (pc := 29) k_M_turns_29 rfl ?_
      | refine T_ldc (v := (-1000000001)) (pc1 := 34) (pc := 32) k_M_turns_32 rfl c_M_111 ?_
      | refine T_retI (pc := 34) k_M_turns_34 rfl (by first | rfl | decide | assumption) ?_)
    all_goals first | exact kk _ _ eqx_rf hN rfl | (exfalso; exact hok ⟨by assumption, by assumption⟩)
set_option maxHeartbeats 4000000 in
theorem c_M_set {N : Row} {n tn : Nat} {b w v : Int32} (G : GeoOK g) (hN : I 102 = N) (ok : okL N n tn) (kk : ∀ J r, eqx [102] I J → J 102 = setN N n b w v → r = setA N n b w v → K (some (.int r)) g J) : Cl 3 M_M_set [.ref 101, .int b, .int w, .int v] g I K := by
  show Rl 3 M_M_set 0 [some (.ref 101), some (.int b), some (.int w), some (.int v), none] [] g I K
  obtain ⟨hn, h14, -⟩ := id ok
  have e0 : (nI 0).toInt = 0 := rfl
  have e1 : (nI 1).toInt = 1 := rfl
  have e3 : (nI 3).toInt = 3 := rfl
  have e4 : (nI 4).toInt = 4 := rfl
  have e5 : (nI 5).toInt = 5 := rfl
  have e99 : (nI 99).toInt = 99 := rfl
  have e999 : (nI 999).toInt = 999 := rfl
  have i3 : ∀ w : Int32, w = nI 3 ↔ w.toInt = 3 := fun w => ⟨fun h => by rw [h]; rfl, fun h => toInt_inj h⟩
  have i4 : ∀ w : Int32, w = nI 4 ↔ w.toInt = 4 := fun w => ⟨fun h => by rw [h]; rfl, fun h => toInt_inj h⟩
  have i5 : ∀ w : Int32, w = nI 5 ↔ w.toInt = 5 := fun w => ⟨fun h => by rw [h]; rfl, fun h => toInt_inj h⟩
  have iN : ∀ v : Int32, v = cNONE ↔ v.toInt = -1000000005 := fun w => ⟨fun h => by rw [h]; rfl, fun h => toInt_inj h⟩
  by_cases hok : rg n b ∧ okSet w v
  · rw [setN, setA, if_pos hok, if_pos hok] at kk
    obtain ⟨hb, hs⟩ := hok
    obtain ⟨j, hj, rfl⟩ := rg_of hb (by omega)
    have hw : ∃ q : Nat, 3 ≤ q ∧ q ≤ 5 ∧ w = nI q := by
      rcases hs with h | h | h
      · exact ⟨3, by omega, by omega, h.1⟩
      · exact ⟨4, by omega, by omega, h.1⟩
      · exact ⟨5, by omega, by omega, h.1⟩
    obtain ⟨q, hq1, hq2, rfl⟩ := hw
    rw [nI_clamp (by omega), nI_clamp (by omega)] at kk
    have hs2 : (q = 3 ∧ bt 1 99 v) ∨ (q = 4 ∧ bt 0 999 v) ∨ (q = 5 ∧ (bt 0 999 v ∨ v.toInt = -1000000005)) := by
      have := nI_toInt (n := q) (by omega)
      rw [okSet, i3, i4, i5, iN] at hs
      omega
    have eq1 := nI_toInt (n := q) (by omega)
    repeat' (first
      | refine T_iload_n (pc1 := 1) (pc := 0) k_M_set_0 rfl rfl ?_
      | refine T_iconst (v := (nI 3)) (pc1 := 2) (pc := 1) k_M_set_1 rfl (by decide) ?_
      | (with_reducible refine T_icmp_neN (tgt := 15) (pc1 := 5) (pc := 2) k_M_set_2 (by decide) (by decide) (by omega) (by omega) (fun hc => ?_) (fun hc => ?_) <;> first | (exfalso; omega) | skip)
      | refine T_icmp_ne_t (tgt := 15) (pc := 2) k_M_set_2 rfl (by decide) ?_
      | refine T_icmp_ne_f (tgt := 15) (pc1 := 5) (pc := 2) k_M_set_2 rfl rfl (by decide) ?_
      | refine T_icmp_ne (tgt := 15) (pc1 := 5) (pc := 2) k_M_set_2 rfl rfl (fun hc => ?_) (fun hc => ?_)
      | refine T_iload_n (pc1 := 6) (pc := 5) k_M_set_5 rfl rfl ?_
      | refine T_iconst (v := (nI 1)) (pc1 := 7) (pc := 6) k_M_set_6 rfl (by decide) ?_
      | refine T_bipush (v := (nI 99)) (pc1 := 9) (pc := 7) k_M_set_7 rfl (by decide) ?_
      | (refine T_cS (As := [_, _, _]) (d1 := 1) (pc1 := 12) (pc := 9) k_M_set_9 rfl (by decide) (Nat.le_of_ble_eq_true rfl) rfl o_M_within l_M_95 rfl (c_M_within (fun hw => ?_) (fun hw => ?_)) <;> try dsimp only [psh])
      | refine T_goto (tgt := 51) (pc := 12) k_M_set_12 rfl ?_
      | refine T_iload_n (pc1 := 16) (pc := 15) k_M_set_15 rfl rfl ?_
      | refine T_iconst (v := (nI 4)) (pc1 := 17) (pc := 16) k_M_set_16 rfl (by decide) ?_
      | refine T_iconst (v := (nI 5)) (pc1 := 18) (pc := 17) k_M_set_17 rfl (by decide) ?_
      | (refine T_cS (As := [_, _, _]) (d1 := 1) (pc1 := 21) (pc := 18) k_M_set_18 rfl (by decide) (Nat.le_of_ble_eq_true rfl) rfl o_M_within l_M_95 rfl (c_M_within (fun hw => ?_) (fun hw => ?_)) <;> try dsimp only [psh])
      | (with_reducible refine T_if_eqN (tgt := 50) (pc1 := 24) (pc := 21) k_M_set_21 (by decide) (by decide) (by omega) (fun hc => ?_) (fun hc => ?_) <;> first | (exfalso; omega) | skip)
      | refine T_if_eq_t (tgt := 50) (pc := 21) k_M_set_21 rfl (by decide) ?_
      | refine T_if_eq_f (tgt := 50) (pc1 := 24) (pc := 21) k_M_set_21 rfl rfl (by decide) ?_
      | refine T_if_eq (tgt := 50) (pc1 := 24) (pc := 21) k_M_set_21 rfl rfl (fun hc => ?_) (fun hc => ?_)
      | refine T_iload_n (pc1 := 25) (pc := 24) k_M_set_24 rfl rfl ?_
      | refine T_iconst (v := (nI 0)) (pc1 := 26) (pc := 25) k_M_set_25 rfl (by decide) ?_
      | refine T_sipush (v := (nI 999)) (pc1 := 29) (pc := 26) k_M_set_26 rfl (by decide) ?_
      | (refine T_cS (As := [_, _, _]) (d1 := 1) (pc1 := 32) (pc := 29) k_M_set_29 rfl (by decide) (Nat.le_of_ble_eq_true rfl) rfl o_M_within l_M_95 rfl (c_M_within (fun hw => ?_) (fun hw => ?_)) <;> try dsimp only [psh])
      | (with_reducible refine T_if_neN (tgt := 46) (pc1 := 35) (pc := 32) k_M_set_32 (by decide) (by decide) (by omega) (fun hc => ?_) (fun hc => ?_) <;> first | (exfalso; omega) | skip)
      | refine T_if_ne_t (tgt := 46) (pc := 32) k_M_set_32 rfl (by decide) ?_
      | refine T_if_ne_f (tgt := 46) (pc1 := 35) (pc := 32) k_M_set_32 rfl rfl (by decide) ?_
      | refine T_if_ne (tgt := 46) (pc1 := 35) (pc := 32) k_M_set_32 rfl rfl (fun hc => ?_) (fun hc => ?_)
      | refine T_iload_n (pc1 := 36) (pc := 35) k_M_set_35 rfl rfl ?_
      | refine T_iconst (v := (nI 5)) (pc1 := 37) (pc := 36) k_M_set_36 rfl (by decide) ?_
      | (with_reducible refine T_icmp_neN (tgt := 50) (pc1 := 40) (pc := 37) k_M_set_37 (by decide) (by decide) (by omega) (by omega) (fun hc => ?_) (fun hc => ?_) <;> first | (exfalso; omega) | skip)
      | refine T_icmp_ne_t (tgt := 50) (pc := 37) k_M_set_37 rfl (by decide) ?_
      | refine T_icmp_ne_f (tgt := 50) (pc1 := 40) (pc := 37) k_M_set_37 rfl rfl (by decide) ?_
      | refine T_icmp_ne (tgt := 50) (pc1 := 40) (pc := 37) k_M_set_37 rfl rfl (fun hc => ?_) (fun hc => ?_)
      | refine T_iload_n (pc1 := 41) (pc := 40) k_M_set_40 rfl rfl ?_
      | refine T_ldc (v := (-1000000005)) (pc1 := 43) (pc := 41) k_M_set_41 rfl c_M_103 ?_
      | (with_reducible refine T_icmp_neN (tgt := 50) (pc1 := 46) (pc := 43) k_M_set_43 (by decide) (by decide) (by omega) (by omega) (fun hc => ?_) (fun hc => ?_) <;> first | (exfalso; omega) | skip)
      | refine T_icmp_ne_t (tgt := 50) (pc := 43) k_M_set_43 rfl (by decide) ?_
      | refine T_icmp_ne_f (tgt := 50) (pc1 := 46) (pc := 43) k_M_set_43 rfl rfl (by decide) ?_
      | refine T_icmp_ne (tgt := 50) (pc1 := 46) (pc := 43) k_M_set_43 rfl rfl (fun hc => ?_) (fun hc => ?_)
      | refine T_iconst (v := (nI 1)) (pc1 := 47) (pc := 46) k_M_set_46 rfl (by decide) ?_
      | refine T_goto (tgt := 51) (pc := 47) k_M_set_47 rfl ?_
      | refine T_iconst (v := (nI 0)) (pc1 := 51) (pc := 50) k_M_set_50 rfl (by decide) ?_
      | refine T_istore (pc1 := 53) (pc := 51) k_M_set_51 rfl (Nat.le_of_ble_eq_true rfl) ?_
      | refine T_aload_n (pc1 := 54) (pc := 53) k_M_set_53 rfl rfl ?_
      | refine T_aload_nN (pc1 := 54) (pc := 53) k_M_set_53 rfl rfl ?_
      | refine T_iload_n (pc1 := 55) (pc := 54) k_M_set_54 rfl rfl ?_
      | (refine T_cV (As := [_]) (d1 := 2) (pc1 := 58) (pc := 55) k_M_set_55 rfl (by decide) (Nat.le_of_ble_eq_true rfl) rfl o_M_isBit l_M_140 rfl (by first | exact ga G (by decide) rfl | assumption) rfl (c_M_isBit G hN hn h14 (fun hw => ?_) (fun hw => ?_)) <;> try dsimp only [psh])
      | (with_reducible refine T_if_eqN (tgt := 83) (pc1 := 61) (pc := 58) k_M_set_58 (by decide) (by decide) (by omega) (fun hc => ?_) (fun hc => ?_) <;> first | (exfalso; omega) | skip)
      | refine T_if_eq_t (tgt := 83) (pc := 58) k_M_set_58 rfl (by decide) ?_
      | refine T_if_eq_f (tgt := 83) (pc1 := 61) (pc := 58) k_M_set_58 rfl rfl (by decide) ?_
      | refine T_if_eq (tgt := 83) (pc1 := 61) (pc := 58) k_M_set_58 rfl rfl (fun hc => ?_) (fun hc => ?_)
      | refine T_iload (pc1 := 63) (pc := 61) k_M_set_61 rfl rfl ?_
      | (with_reducible refine T_if_eqN (tgt := 83) (pc1 := 66) (pc := 63) k_M_set_63 (by decide) (by decide) (by omega) (fun hc => ?_) (fun hc => ?_) <;> first | (exfalso; omega) | skip)
      | refine T_if_eq_t (tgt := 83) (pc := 63) k_M_set_63 rfl (by decide) ?_
      | refine T_if_eq_f (tgt := 83) (pc1 := 66) (pc := 63) k_M_set_63 rfl rfl (by decide) ?_
      | refine T_if_eq (tgt := 83) (pc1 := 66) (pc := 63) k_M_set_63 rfl rfl (fun hc => ?_) (fun hc => ?_)
      | refine T_aload_n (pc1 := 67) (pc := 66) k_M_set_66 rfl rfl ?_
      | refine T_aload_nN (pc1 := 67) (pc := 66) k_M_set_66 rfl rfl ?_
      | refine T_bipush (v := (nI 12)) (pc1 := 69) (pc := 67) k_M_set_67 rfl (by decide) ?_
      | refine T_bipush (v := (nI 6)) (pc1 := 71) (pc := 69) k_M_set_69 rfl (by decide) ?_
      | refine T_iload_n (pc1 := 72) (pc := 71) k_M_set_71 rfl rfl ?_
      | with_reducible refine T_imulN (pc1 := 73) (pc := 72) k_M_set_72 (by decide) ?_
      | refine T_imul (pc1 := 73) (pc := 72) k_M_set_72 rfl ?_
      | with_reducible refine T_iaddN (pc1 := 74) (pc := 73) k_M_set_73 (by decide) ?_
      | refine T_iadd (pc1 := 74) (pc := 73) k_M_set_73 rfl ?_
      | refine T_iload_n (pc1 := 75) (pc := 74) k_M_set_74 rfl rfl ?_
      | with_reducible refine T_iaddN (pc1 := 76) (pc := 75) k_M_set_75 (by decide) ?_
      | refine T_iadd (pc1 := 76) (pc := 75) k_M_set_75 rfl ?_
      | refine T_iload_n (pc1 := 77) (pc := 76) k_M_set_76 rfl rfl ?_
      | (refine T_cV (As := [_, _]) (d1 := 1) (pc1 := 80) (pc := 77) k_M_set_77 rfl (by decide) (Nat.le_of_ble_eq_true rfl) rfl o_M_become l_M_156 rfl (by first | exact ga G (by decide) rfl | assumption) rfl (c_M_become G (by omega) ?_) <;> try dsimp only [psh])
      | refine T_goto (tgt := 85) (pc := 80) k_M_set_80 rfl ?_
      | refine T_ldc (v := (-1000000001)) (pc1 := 85) (pc := 83) k_M_set_83 rfl c_M_111 ?_
      | refine T_retI (pc := 85) k_M_set_85 rfl (by first | rfl | decide | assumption) ?_)
    all_goals first | exact kk _ _ (eqx_pI eqx_rf _ (by decide)) (upI hN) (by rw [hN]; rfl) | (exfalso; rw [iN] at *; omega) | (exfalso; omega) | (exfalso; contradiction)
  · rw [setN, setA, if_neg hok, if_neg hok] at kk
    repeat' (first
      | refine T_iload_n (pc1 := 1) (pc := 0) k_M_set_0 rfl rfl ?_
      | refine T_iconst (v := (nI 3)) (pc1 := 2) (pc := 1) k_M_set_1 rfl (by decide) ?_
      | (with_reducible refine T_icmp_neN (tgt := 15) (pc1 := 5) (pc := 2) k_M_set_2 (by decide) (by decide) (by omega) (by omega) (fun hc => ?_) (fun hc => ?_) <;> first | (exfalso; omega) | skip)
      | refine T_icmp_ne_t (tgt := 15) (pc := 2) k_M_set_2 rfl (by decide) ?_
      | refine T_icmp_ne_f (tgt := 15) (pc1 := 5) (pc := 2) k_M_set_2 rfl rfl (by decide) ?_
      | refine T_icmp_ne (tgt := 15) (pc1 := 5) (pc := 2) k_M_set_2 rfl rfl (fun hc => ?_) (fun hc => ?_)
      | refine T_iload_n (pc1 := 6) (pc := 5) k_M_set_5 rfl rfl ?_
      | refine T_iconst (v := (nI 1)) (pc1 := 7) (pc := 6) k_M_set_6 rfl (by decide) ?_
      | refine T_bipush (v := (nI 99)) (pc1 := 9) (pc := 7) k_M_set_7 rfl (by decide) ?_
      | (refine T_cS (As := [_, _, _]) (d1 := 1) (pc1 := 12) (pc := 9) k_M_set_9 rfl (by decide) (Nat.le_of_ble_eq_true rfl) rfl o_M_within l_M_95 rfl (c_M_within (fun hw => ?_) (fun hw => ?_)) <;> try dsimp only [psh])
      | refine T_goto (tgt := 51) (pc := 12) k_M_set_12 rfl ?_
      | refine T_iload_n (pc1 := 16) (pc := 15) k_M_set_15 rfl rfl ?_
      | refine T_iconst (v := (nI 4)) (pc1 := 17) (pc := 16) k_M_set_16 rfl (by decide) ?_
      | refine T_iconst (v := (nI 5)) (pc1 := 18) (pc := 17) k_M_set_17 rfl (by decide) ?_
      | (refine T_cS (As := [_, _, _]) (d1 := 1) (pc1 := 21) (pc := 18) k_M_set_18 rfl (by decide) (Nat.le_of_ble_eq_true rfl) rfl o_M_within l_M_95 rfl (c_M_within (fun hw => ?_) (fun hw => ?_)) <;> try dsimp only [psh])
      | (with_reducible refine T_if_eqN (tgt := 50) (pc1 := 24) (pc := 21) k_M_set_21 (by decide) (by decide) (by omega) (fun hc => ?_) (fun hc => ?_) <;> first | (exfalso; omega) | skip)
      | refine T_if_eq_t (tgt := 50) (pc := 21) k_M_set_21 rfl (by decide) ?_
      | refine T_if_eq_f (tgt := 50) (pc1 := 24) (pc := 21) k_M_set_21 rfl rfl (by decide) ?_
      | refine T_if_eq (tgt := 50) (pc1 := 24) (pc := 21) k_M_set_21 rfl rfl (fun hc => ?_) (fun hc => ?_)
      | refine T_iload_n (pc1 := 25) (pc := 24) k_M_set_24 rfl rfl ?_
      | refine T_iconst (v := (nI 0)) (pc1 := 26) (pc := 25) k_M_set_25 rfl (by decide) ?_
      | refine T_sipush (v := (nI 999)) (pc1 := 29) (pc := 26) k_M_set_26 rfl (by decide) ?_
      | (refine T_cS (As := [_, _, _]) (d1 := 1) (pc1 := 32) (pc := 29) k_M_set_29 rfl (by decide) (Nat.le_of_ble_eq_true rfl) rfl o_M_within l_M_95 rfl (c_M_within (fun hw => ?_) (fun hw => ?_)) <;> try dsimp only [psh])
      | (with_reducible refine T_if_neN (tgt := 46) (pc1 := 35) (pc := 32) k_M_set_32 (by decide) (by decide) (by omega) (fun hc => ?_) (fun hc => ?_) <;> first | (exfalso; omega) | skip)
      | refine T_if_ne_t (tgt := 46) (pc := 32) k_M_set_32 rfl (by decide) ?_
      | refine T_if_ne_f (tgt := 46) (pc1 := 35) (pc := 32) k_M_set_32 rfl rfl (by decide) ?_
      | refine T_if_ne (tgt := 46) (pc1 := 35) (pc := 32) k_M_set_32 rfl rfl (fun hc => ?_) (fun hc => ?_)
      | refine T_iload_n (pc1 := 36) (pc := 35) k_M_set_35 rfl rfl ?_
      | refine T_iconst (v := (nI 5)) (pc1 := 37) (pc := 36) k_M_set_36 rfl (by decide) ?_
      | (with_reducible refine T_icmp_neN (tgt := 50) (pc1 := 40) (pc := 37) k_M_set_37 (by decide) (by decide) (by omega) (by omega) (fun hc => ?_) (fun hc => ?_) <;> first | (exfalso; omega) | skip)
      | refine T_icmp_ne_t (tgt := 50) (pc := 37) k_M_set_37 rfl (by decide) ?_
      | refine T_icmp_ne_f (tgt := 50) (pc1 := 40) (pc := 37) k_M_set_37 rfl rfl (by decide) ?_
      | refine T_icmp_ne (tgt := 50) (pc1 := 40) (pc := 37) k_M_set_37 rfl rfl (fun hc => ?_) (fun hc => ?_)
      | refine T_iload_n (pc1 := 41) (pc := 40) k_M_set_40 rfl rfl ?_
      | refine T_ldc (v := (-1000000005)) (pc1 := 43) (pc := 41) k_M_set_41 rfl c_M_103 ?_
      | (with_reducible refine T_icmp_neN (tgt := 50) (pc1 := 46) (pc := 43) k_M_set_43 (by decide) (by decide) (by omega) (by omega) (fun hc => ?_) (fun hc => ?_) <;> first | (exfalso; omega) | skip)
      | refine T_icmp_ne_t (tgt := 50) (pc := 43) k_M_set_43 rfl (by decide) ?_
      | refine T_icmp_ne_f (tgt := 50) (pc1 := 46) (pc := 43) k_M_set_43 rfl rfl (by decide) ?_
      | refine T_icmp_ne (tgt := 50) (pc1 := 46) (pc := 43) k_M_set_43 rfl rfl (fun hc => ?_) (fun hc => ?_)
      | refine T_iconst (v := (nI 1)) (pc1 := 47) (pc := 46) k_M_set_46 rfl (by decide) ?_
      | refine T_goto (tgt := 51) (pc := 47) k_M_set_47 rfl ?_
      | refine T_iconst (v := (nI 0)) (pc1 := 51) (pc := 50) k_M_set_50 rfl (by decide) ?_
      | refine T_istore (pc1 := 53) (pc := 51) k_M_set_51 rfl (Nat.le_of_ble_eq_true rfl) ?_
      | refine T_aload_n (pc1 := 54) (pc := 53) k_M_set_53 rfl rfl ?_
      | refine T_aload_nN (pc1 := 54) (pc := 53) k_M_set_53 rfl rfl ?_
      | refine T_iload_n (pc1 := 55) (pc := 54) k_M_set_54 rfl rfl ?_
      | (refine T_cV (As := [_]) (d1 := 2) (pc1 := 58) (pc := 55) k_M_set_55 rfl (by decide) (Nat.le_of_ble_eq_true rfl) rfl o_M_isBit l_M_140 rfl (by first | exact ga G (by decide) rfl | assumption) rfl (c_M_isBit G hN hn h14 (fun hw => ?_) (fun hw => ?_)) <;> try dsimp only [psh])
      | (with_reducible refine T_if_eqN (tgt := 83) (pc1 := 61) (pc := 58) k_M_set_58 (by decide) (by decide) (by omega) (fun hc => ?_) (fun hc => ?_) <;> first | (exfalso; omega) | skip)
      | refine T_if_eq_t (tgt := 83) (pc := 58) k_M_set_58 rfl (by decide) ?_
      | refine T_if_eq_f (tgt := 83) (pc1 := 61) (pc := 58) k_M_set_58 rfl rfl (by decide) ?_
      | refine T_if_eq (tgt := 83) (pc1 := 61) (pc := 58) k_M_set_58 rfl rfl (fun hc => ?_) (fun hc => ?_)
      | refine T_iload (pc1 := 63) (pc := 61) k_M_set_61 rfl rfl ?_
      | (with_reducible refine T_if_eqN (tgt := 83) (pc1 := 66) (pc := 63) k_M_set_63 (by decide) (by decide) (by omega) (fun hc => ?_) (fun hc => ?_) <;> first | (exfalso; omega) | skip)
      | refine T_if_eq_t (tgt := 83) (pc := 63) k_M_set_63 rfl (by decide) ?_
      | refine T_if_eq_f (tgt := 83) (pc1 := 66) (pc := 63) k_M_set_63 rfl rfl (by decide) ?_
      | refine T_if_eq (tgt := 83) (pc1 := 66) (pc := 63) k_M_set_63 rfl rfl (fun hc => ?_) (fun hc => ?_)
      | refine T_bipush (v := (nI 12)) (pc1 := 69) (pc := 67) k_M_set_67 rfl (by decide) ?_
      | refine T_bipush (v := (nI 6)) (pc1 := 71) (pc := 69) k_M_set_69 rfl (by decide) ?_
      | refine T_iload_n (pc1 := 72) (pc := 71) k_M_set_71 rfl rfl ?_
      | with_reducible refine T_imulN (pc1 := 73) (pc := 72) k_M_set_72 (by decide) ?_
      | refine T_imul (pc1 := 73) (pc := 72) k_M_set_72 rfl ?_
      | with_reducible refine T_iaddN (pc1 := 74) (pc := 73) k_M_set_73 (by decide) ?_
      | refine T_iadd (pc1 := 74) (pc := 73) k_M_set_73 rfl ?_
      | refine T_iload_n (pc1 := 75) (pc := 74) k_M_set_74 rfl rfl ?_
      | with_reducible refine T_iaddN (pc1 := 76) (pc := 75) k_M_set_75 (by decide) ?_
      | refine T_iadd (pc1 := 76) (pc := 75) k_M_set_75 rfl ?_
      | refine T_iload_n (pc1 := 77) (pc := 76) k_M_set_76 rfl rfl ?_
      | (refine T_cV (As := [_, _]) (d1 := 1) (pc1 := 80) (pc := 77) k_M_set_77 rfl (by decide) (Nat.le_of_ble_eq_true rfl) rfl o_M_become l_M_156 rfl (by first | exact ga G (by decide) rfl | assumption) rfl (c_M_become G (by omega) ?_) <;> try dsimp only [psh])
      | refine T_goto (tgt := 85) (pc := 80) k_M_set_80 rfl ?_
      | refine T_ldc (v := (-1000000001)) (pc1 := 85) (pc := 83) k_M_set_83 rfl c_M_111 ?_
      | refine T_retI (pc := 85) k_M_set_85 rfl (by first | rfl | decide | assumption) ?_)
    all_goals first | exact kk _ _ eqx_rf hN rfl | skip
    all_goals (exfalso; refine hok ⟨by assumption, ?_⟩; rw [okSet, i3, i4, i5, iN]; (try rw [iN] at *); (try rw [i3] at *); (try rw [i5] at *); omega)
theorem c_M_rule {N : Row} {w v : Int32} (G : GeoOK g) (hN : I 102 = N) (kk : ∀ J r, eqx [102] I J → J 102 = ruleN N w v → r = ruleA N w v → K (some (.int r)) g J) : Cl 2 M_M_rule [.ref 101, .int w, .int v] g I K := by
  show Rl 2 M_M_rule 0 [some (.ref 101), some (.int w), some (.int v), none] [] g I K
  have e0 : (nI 0).toInt = 0 := rfl
  have e1 : (nI 1).toInt = 1 := rfl
  have e99 : (nI 99).toInt = 99 := rfl
  have i0 : ∀ w : Int32, w = nI 0 ↔ w.toInt = 0 := fun w => ⟨fun h => by rw [h]; rfl, fun h => toInt_inj h⟩
  have i1 : ∀ w : Int32, w = nI 1 ↔ w.toInt = 1 := fun w => ⟨fun h => by rw [h]; rfl, fun h => toInt_inj h⟩
  by_cases hok : okRule w v
  · rw [ruleN, ruleA, if_pos hok, if_pos hok] at kk
    rcases hok with ⟨rfl, h⟩ | ⟨rfl, h⟩
    all_goals
      repeat' (first
        | refine T_iload_n (pc1 := 1) (pc := 0) k_M_rule_0 rfl rfl ?_
        | (with_reducible refine T_if_neN (tgt := 13) (pc1 := 4) (pc := 1) k_M_rule_1 (by decide) (by decide) (by omega) (fun hc => ?_) (fun hc => ?_) <;> first | (exfalso; omega) | skip)
        | refine T_if_ne_t (tgt := 13) (pc := 1) k_M_rule_1 rfl (by decide) ?_
        | refine T_if_ne_f (tgt := 13) (pc1 := 4) (pc := 1) k_M_rule_1 rfl rfl (by decide) ?_
        | refine T_if_ne (tgt := 13) (pc1 := 4) (pc := 1) k_M_rule_1 rfl rfl (fun hc => ?_) (fun hc => ?_)
        | refine T_iload_n (pc1 := 5) (pc := 4) k_M_rule_4 rfl rfl ?_
        | refine T_iconst (v := (nI 0)) (pc1 := 6) (pc := 5) k_M_rule_5 rfl (by decide) ?_
        | refine T_iconst (v := (nI 1)) (pc1 := 7) (pc := 6) k_M_rule_6 rfl (by decide) ?_
        | (refine T_cS (As := [_, _, _]) (d1 := 1) (pc1 := 10) (pc := 7) k_M_rule_7 rfl (by decide) (Nat.le_of_ble_eq_true rfl) rfl o_M_within l_M_95 rfl (c_M_within (fun hw => ?_) (fun hw => ?_)) <;> try dsimp only [psh])
        | (with_reducible refine T_if_neN (tgt := 28) (pc1 := 13) (pc := 10) k_M_rule_10 (by decide) (by decide) (by omega) (fun hc => ?_) (fun hc => ?_) <;> first | (exfalso; omega) | skip)
        | refine T_if_ne_t (tgt := 28) (pc := 10) k_M_rule_10 rfl (by decide) ?_
        | refine T_if_ne_f (tgt := 28) (pc1 := 13) (pc := 10) k_M_rule_10 rfl rfl (by decide) ?_
        | refine T_if_ne (tgt := 28) (pc1 := 13) (pc := 10) k_M_rule_10 rfl rfl (fun hc => ?_) (fun hc => ?_)
        | refine T_iload_n (pc1 := 14) (pc := 13) k_M_rule_13 rfl rfl ?_
        | refine T_iconst (v := (nI 1)) (pc1 := 15) (pc := 14) k_M_rule_14 rfl (by decide) ?_
        | (with_reducible refine T_icmp_neN (tgt := 32) (pc1 := 18) (pc := 15) k_M_rule_15 (by decide) (by decide) (by omega) (by omega) (fun hc => ?_) (fun hc => ?_) <;> first | (exfalso; omega) | skip)
        | refine T_icmp_ne_t (tgt := 32) (pc := 15) k_M_rule_15 rfl (by decide) ?_
        | refine T_icmp_ne_f (tgt := 32) (pc1 := 18) (pc := 15) k_M_rule_15 rfl rfl (by decide) ?_
        | refine T_icmp_ne (tgt := 32) (pc1 := 18) (pc := 15) k_M_rule_15 rfl rfl (fun hc => ?_) (fun hc => ?_)
        | refine T_iload_n (pc1 := 19) (pc := 18) k_M_rule_18 rfl rfl ?_
        | refine T_iconst (v := (nI 1)) (pc1 := 20) (pc := 19) k_M_rule_19 rfl (by decide) ?_
        | refine T_bipush (v := (nI 99)) (pc1 := 22) (pc := 20) k_M_rule_20 rfl (by decide) ?_
        | (refine T_cS (As := [_, _, _]) (d1 := 1) (pc1 := 25) (pc := 22) k_M_rule_22 rfl (by decide) (Nat.le_of_ble_eq_true rfl) rfl o_M_within l_M_95 rfl (c_M_within (fun hw => ?_) (fun hw => ?_)) <;> try dsimp only [psh])
        | (with_reducible refine T_if_eqN (tgt := 32) (pc1 := 28) (pc := 25) k_M_rule_25 (by decide) (by decide) (by omega) (fun hc => ?_) (fun hc => ?_) <;> first | (exfalso; omega) | skip)
        | refine T_if_eq_t (tgt := 32) (pc := 25) k_M_rule_25 rfl (by decide) ?_
        | refine T_if_eq_f (tgt := 32) (pc1 := 28) (pc := 25) k_M_rule_25 rfl rfl (by decide) ?_
        | refine T_if_eq (tgt := 32) (pc1 := 28) (pc := 25) k_M_rule_25 rfl rfl (fun hc => ?_) (fun hc => ?_)
        | refine T_iconst (v := (nI 1)) (pc1 := 29) (pc := 28) k_M_rule_28 rfl (by decide) ?_
        | refine T_goto (tgt := 33) (pc := 29) k_M_rule_29 rfl ?_
        | refine T_iconst (v := (nI 0)) (pc1 := 33) (pc := 32) k_M_rule_32 rfl (by decide) ?_
        | refine T_istore_n (pc1 := 34) (pc := 33) k_M_rule_33 rfl (Nat.le_of_ble_eq_true rfl) ?_
        | refine T_iload_n (pc1 := 35) (pc := 34) k_M_rule_34 rfl rfl ?_
        | (with_reducible refine T_if_eqN (tgt := 49) (pc1 := 38) (pc := 35) k_M_rule_35 (by decide) (by decide) (by omega) (fun hc => ?_) (fun hc => ?_) <;> first | (exfalso; omega) | skip)
        | refine T_if_eq_t (tgt := 49) (pc := 35) k_M_rule_35 rfl (by decide) ?_
        | refine T_if_eq_f (tgt := 49) (pc1 := 38) (pc := 35) k_M_rule_35 rfl rfl (by decide) ?_
        | refine T_if_eq (tgt := 49) (pc1 := 38) (pc := 35) k_M_rule_35 rfl rfl (fun hc => ?_) (fun hc => ?_)
        | refine T_aload_n (pc1 := 39) (pc := 38) k_M_rule_38 rfl rfl ?_
        | refine T_aload_nN (pc1 := 39) (pc := 38) k_M_rule_38 rfl rfl ?_
        | refine T_iconst (v := (nI 3)) (pc1 := 40) (pc := 39) k_M_rule_39 rfl (by decide) ?_
        | refine T_iload_n (pc1 := 41) (pc := 40) k_M_rule_40 rfl rfl ?_
        | with_reducible refine T_iaddN (pc1 := 42) (pc := 41) k_M_rule_41 (by decide) ?_
        | refine T_iadd (pc1 := 42) (pc := 41) k_M_rule_41 rfl ?_
        | refine T_iload_n (pc1 := 43) (pc := 42) k_M_rule_42 rfl rfl ?_
        | (refine T_cV (As := [_, _]) (d1 := 1) (pc1 := 46) (pc := 43) k_M_rule_43 rfl (by decide) (Nat.le_of_ble_eq_true rfl) rfl o_M_become l_M_156 rfl (by first | exact ga G (by decide) rfl | assumption) rfl (c_M_become G (by omega) ?_) <;> try dsimp only [psh])
        | refine T_goto (tgt := 51) (pc := 46) k_M_rule_46 rfl ?_
        | refine T_ldc (v := (-1000000001)) (pc1 := 51) (pc := 49) k_M_rule_49 rfl c_M_111 ?_
        | refine T_retI (pc := 51) k_M_rule_51 rfl (by first | rfl | decide | assumption) ?_)
      all_goals first | exact kk _ _ (eqx_pI eqx_rf _ (by decide)) (upI hN) (by rw [hN]; rfl) | (exfalso; omega)
  · rw [ruleN, ruleA, if_neg hok, if_neg hok] at kk
    repeat' (first
      | refine T_iload_n (pc1 := 1) (pc := 0) k_M_rule_0 rfl rfl ?_
      | (with_reducible refine T_if_neN (tgt := 13) (pc1 := 4) (pc := 1) k_M_rule_1 (by decide) (by decide) (by omega) (fun hc => ?_) (fun hc => ?_) <;> first | (exfalso; omega) | skip)
      | refine T_if_ne_t (tgt := 13) (pc := 1) k_M_rule_1 rfl (by decide) ?_
      | refine T_if_ne_f (tgt := 13) (pc1 := 4) (pc := 1) k_M_rule_1 rfl rfl (by decide) ?_
      | refine T_if_ne (tgt := 13) (pc1 := 4) (pc := 1) k_M_rule_1 rfl rfl (fun hc => ?_) (fun hc => ?_)
      | refine T_iload_n (pc1 := 5) (pc := 4) k_M_rule_4 rfl rfl ?_
      | refine T_iconst (v := (nI 0)) (pc1 := 6) (pc := 5) k_M_rule_5 rfl (by decide) ?_
      | refine T_iconst (v := (nI 1)) (pc1 := 7) (pc := 6) k_M_rule_6 rfl (by decide) ?_
      | (refine T_cS (As := [_, _, _]) (d1 := 1) (pc1 := 10) (pc := 7) k_M_rule_7 rfl (by decide) (Nat.le_of_ble_eq_true rfl) rfl o_M_within l_M_95 rfl (c_M_within (fun hw => ?_) (fun hw => ?_)) <;> try dsimp only [psh])
      | (with_reducible refine T_if_neN (tgt := 28) (pc1 := 13) (pc := 10) k_M_rule_10 (by decide) (by decide) (by omega) (fun hc => ?_) (fun hc => ?_) <;> first | (exfalso; omega) | skip)
      | refine T_if_ne_t (tgt := 28) (pc := 10) k_M_rule_10 rfl (by decide) ?_
      | refine T_if_ne_f (tgt := 28) (pc1 := 13) (pc := 10) k_M_rule_10 rfl rfl (by decide) ?_
      | refine T_if_ne (tgt := 28) (pc1 := 13) (pc := 10) k_M_rule_10 rfl rfl (fun hc => ?_) (fun hc => ?_)
      | refine T_iload_n (pc1 := 14) (pc := 13) k_M_rule_13 rfl rfl ?_
      | refine T_iconst (v := (nI 1)) (pc1 := 15) (pc := 14) k_M_rule_14 rfl (by decide) ?_
      | (with_reducible refine T_icmp_neN (tgt := 32) (pc1 := 18) (pc := 15) k_M_rule_15 (by decide) (by decide) (by omega) (by omega) (fun hc => ?_) (fun hc => ?_) <;> first | (exfalso; omega) | skip)
      | refine T_icmp_ne_t (tgt := 32) (pc := 15) k_M_rule_15 rfl (by decide) ?_
      | refine T_icmp_ne_f (tgt := 32) (pc1 := 18) (pc := 15) k_M_rule_15 rfl rfl (by decide) ?_
      | refine T_icmp_ne (tgt := 32) (pc1 := 18) (pc := 15) k_M_rule_15 rfl rfl (fun hc => ?_) (fun hc => ?_)
      | refine T_iload_n (pc1 := 19) (pc := 18) k_M_rule_18 rfl rfl ?_
      | refine T_iconst (v := (nI 1)) (pc1 := 20) (pc := 19) k_M_rule_19 rfl (by decide) ?_
      | refine T_bipush (v := (nI 99)) (pc1 := 22) (pc := 20) k_M_rule_20 rfl (by decide) ?_
      | (refine T_cS (As := [_, _, _]) (d1 := 1) (pc1 := 25) (pc := 22) k_M_rule_22 rfl (by decide) (Nat.le_of_ble_eq_true rfl) rfl o_M_within l_M_95 rfl (c_M_within (fun hw => ?_) (fun hw => ?_)) <;> try dsimp only [psh])
      | (with_reducible refine T_if_eqN (tgt := 32) (pc1 := 28) (pc := 25) k_M_rule_25 (by decide) (by decide) (by omega) (fun hc => ?_) (fun hc => ?_) <;> first | (exfalso; omega) | skip)
      | refine T_if_eq_t (tgt := 32) (pc := 25) k_M_rule_25 rfl (by decide) ?_
      | refine T_if_eq_f (tgt := 32) (pc1 := 28) (pc := 25) k_M_rule_25 rfl rfl (by decide) ?_
      | refine T_if_eq (tgt := 32) (pc1 := 28) (pc := 25) k_M_rule_25 rfl rfl (fun hc => ?_) (fun hc => ?_)
      | refine T_iconst (v := (nI 1)) (pc1 := 29) (pc := 28) k_M_rule_28 rfl (by decide) ?_
      | refine T_goto (tgt := 33) (pc := 29) k_M_rule_29 rfl ?_
      | refine T_iconst (v := (nI 0)) (pc1 := 33) (pc := 32) k_M_rule_32 rfl (by decide) ?_
      | refine T_istore_n (pc1 := 34) (pc := 33) k_M_rule_33 rfl (Nat.le_of_ble_eq_true rfl) ?_
      | refine T_iload_n (pc1 := 35) (pc := 34) k_M_rule_34 rfl rfl ?_
      | (with_reducible refine T_if_eqN (tgt := 49) (pc1 := 38) (pc := 35) k_M_rule_35 (by decide) (by decide) (by omega) (fun hc => ?_) (fun hc => ?_) <;> first | (exfalso; omega) | skip)
      | refine T_if_eq_t (tgt := 49) (pc := 35) k_M_rule_35 rfl (by decide) ?_
      | refine T_if_eq_f (tgt := 49) (pc1 := 38) (pc := 35) k_M_rule_35 rfl rfl (by decide) ?_
      | refine T_if_eq (tgt := 49) (pc1 := 38) (pc := 35) k_M_rule_35 rfl rfl (fun hc => ?_) (fun hc => ?_)
      | refine T_iconst (v := (nI 3)) (pc1 := 40) (pc := 39) k_M_rule_39 rfl (by decide) ?_
      | refine T_iload_n (pc1 := 41) (pc := 40) k_M_rule_40 rfl rfl ?_
      | with_reducible refine T_iaddN (pc1 := 42) (pc := 41) k_M_rule_41 (by decide) ?_
      | refine T_iadd (pc1 := 42) (pc := 41) k_M_rule_41 rfl ?_
      | refine T_iload_n (pc1 := 43) (pc := 42) k_M_rule_42 rfl rfl ?_
      | (refine T_cV (As := [_, _]) (d1 := 1) (pc1 := 46) (pc := 43) k_M_rule_43 rfl (by decide) (Nat.le_of_ble_eq_true rfl) rfl o_M_become l_M_156 rfl (by first | exact ga G (by decide) rfl | assumption) rfl (c_M_become G (by omega) ?_) <;> try dsimp only [psh])
      | refine T_goto (tgt := 51) (pc := 46) k_M_rule_46 rfl ?_
      | refine T_ldc (v := (-1000000001)) (pc1 := 51) (pc := 49) k_M_rule_49 rfl c_M_111 ?_
      | refine T_retI (pc := 51) k_M_rule_51 rfl (by first | rfl | decide | assumption) ?_)
    all_goals first | exact kk _ _ eqx_rf hN rfl | skip
    all_goals (exfalso; apply hok; first | (refine Or.inr ⟨Decidable.not_not.mp (by assumption), ?_, ?_⟩ <;> omega) | (refine Or.inl ⟨Decidable.not_not.mp (by assumption), ?_, ?_⟩ <;> omega))
theorem c_M_seed {N : Row} {v : Int32} (G : GeoOK g) (hN : I 102 = N) (kk : ∀ J, eqx [102] I J → J 102 = va_up N 0 v → K (some (.int (N 0))) g J) : Cl 2 M_M_seed [.ref 101, .int v] g I K := by
  show Rl 2 M_M_seed 0 [some (.ref 101), some (.int v)] [] g I K
  repeat' (first
    | refine T_aload_n (pc1 := 1) (pc := 0) k_M_seed_0 rfl rfl ?_
    | refine T_aload_nN (pc1 := 1) (pc := 0) k_M_seed_0 rfl rfl ?_
    | refine T_iconst (v := (nI 0)) (pc1 := 2) (pc := 1) k_M_seed_1 rfl (by decide) ?_
    | refine T_iload_n (pc1 := 3) (pc := 2) k_M_seed_2 rfl rfl ?_
    | (refine T_cV (As := [_, _]) (d1 := 1) (pc1 := 6) (pc := 3) k_M_seed_3 rfl (by decide) (Nat.le_of_ble_eq_true rfl) rfl o_M_become l_M_156 rfl (by first | exact ga G (by decide) rfl | assumption) rfl (c_M_become G (by omega) ?_) <;> try dsimp only [psh])
    | refine T_retI (pc := 6) k_M_seed_6 rfl (by first | rfl | decide | assumption) ?_)
  rw [hN]
  exact kk _ (eqx_pI eqx_rf _ (by decide)) (upI hN)
theorem c_M_drawn {N : Row} {m : Nat} (G : GeoOK g) (hN : I 102 = N) (hm : 0 < m) (hm2 : m < 100) (kk : ∀ J, eqx [102] I J → J 102 = va_up N 0 (dz (N 0)) → K (some (.int (nI (dq (dz (N 0)) % m)))) g J) : Cl 1 M_M_drawn [.ref 101, .int (nI m)] g I K := by
  show Rl 1 M_M_drawn 0 [some (.ref 101), some (.int (nI m))] [] g I K
  have h2 := dq_lt (dz (N 0))
  repeat' (first
    | refine T_aload_n (pc1 := 1) (pc := 0) k_M_drawn_0 rfl rfl ?_
    | refine T_aload_nN (pc1 := 1) (pc := 0) k_M_drawn_0 rfl rfl ?_
    | refine T_getR (pc1 := 4) (pc := 1) k_M_drawn_1 rfl f_M_9 rfl (by first | exact ga G (by decide) rfl | assumption) (by first | exact gr G (by decide) rfl | assumption) ?_
    | refine T_iconst (v := (nI 0)) (pc1 := 5) (pc := 4) k_M_drawn_4 rfl (by decide) ?_
    | refine T_aload_n (pc1 := 6) (pc := 5) k_M_drawn_5 rfl rfl ?_
    | refine T_aload_nN (pc1 := 6) (pc := 5) k_M_drawn_5 rfl rfl ?_
    | refine T_getR (pc1 := 9) (pc := 6) k_M_drawn_6 rfl f_M_9 rfl (by first | exact ga G (by decide) rfl | assumption) (by first | exact gr G (by decide) rfl | assumption) ?_
    | refine T_iconst (v := (nI 0)) (pc1 := 10) (pc := 9) k_M_drawn_9 rfl (by decide) ?_
    | refine T_ialdN (pc1 := 11) (pc := 10) k_M_drawn_10 rfl (by first | exact ga G (by decide) rfl | assumption) (by omega) (by omega) (by first | assumption | (simp (disch := omega) only [pI_eq, pI_row, pI_col, va_up_self, va_up_ne, ne_eq, not_false_eq_true, hN] <;> rfl) | rfl) ?_
    | refine T_iald (pc1 := 11) (pc := 10) k_M_drawn_10 rfl (by first | exact ga G (by decide) rfl | assumption) (by assumption) ?_
    | refine T_ldc (v := (nI 1103515245)) (pc1 := 13) (pc := 11) k_M_drawn_11 rfl c_M_159 ?_
    | with_reducible refine T_imulN (pc1 := 14) (pc := 13) k_M_drawn_13 (by decide) ?_
    | refine T_imul (pc1 := 14) (pc := 13) k_M_drawn_13 rfl ?_
    | refine T_sipush (v := (nI 12345)) (pc1 := 17) (pc := 14) k_M_drawn_14 rfl (by decide) ?_
    | with_reducible refine T_iaddN (pc1 := 18) (pc := 17) k_M_drawn_17 (by decide) ?_
    | refine T_iadd (pc1 := 18) (pc := 17) k_M_drawn_17 rfl ?_
    | refine T_iastN (pc1 := 19) (pc := 18) k_M_drawn_18 rfl (by first | exact ga G (by decide) rfl | assumption) (by omega) (by omega) ?_
    | refine T_aload_n (pc1 := 20) (pc := 19) k_M_drawn_19 rfl rfl ?_
    | refine T_aload_nN (pc1 := 20) (pc := 19) k_M_drawn_19 rfl rfl ?_
    | refine T_getR (pc1 := 23) (pc := 20) k_M_drawn_20 rfl f_M_9 rfl (by first | exact ga G (by decide) rfl | assumption) (by first | exact gr G (by decide) rfl | assumption) ?_
    | refine T_iconst (v := (nI 0)) (pc1 := 24) (pc := 23) k_M_drawn_23 rfl (by decide) ?_
    | refine T_ialdN (pc1 := 25) (pc := 24) k_M_drawn_24 rfl (by first | exact ga G (by decide) rfl | assumption) (by omega) (by omega) (by first | assumption | (simp (disch := omega) only [pI_eq, pI_row, pI_col, va_up_self, va_up_ne, ne_eq, not_false_eq_true, hN] <;> rfl) | rfl) ?_
    | refine T_iald (pc1 := 25) (pc := 24) k_M_drawn_24 rfl (by first | exact ga G (by decide) rfl | assumption) (by assumption) ?_
    | refine T_bipush (v := (nI 8)) (pc1 := 27) (pc := 25) k_M_drawn_25 rfl (by decide) ?_
    | refine T_iushr (pc1 := 28) (pc := 27) k_M_drawn_27 rfl ?_
    | with_reducible refine T_iremN (pc1 := 30) (pc := 29) k_M_drawn_29 (by decide) (by omega) (by omega) (by omega) ?_
    | refine T_irem (pc1 := 30) (pc := 29) k_M_drawn_29 rfl (by first | assumption | decide) ?_
    | refine T_retI (pc := 30) k_M_drawn_30 rfl (by first | rfl | decide | assumption) ?_)
  show Rl _ _ _ _ [.int ((dz (N 0)).toUInt32 >>> ((nI 8).toUInt32 &&& Int32.toUInt32 31)).toInt32] _ _ _
  rw [dq_eq]
  repeat' (first
    | refine T_aload_n (pc1 := 1) (pc := 0) k_M_drawn_0 rfl rfl ?_
    | refine T_aload_nN (pc1 := 1) (pc := 0) k_M_drawn_0 rfl rfl ?_
    | refine T_getR (pc1 := 4) (pc := 1) k_M_drawn_1 rfl f_M_9 rfl (by first | exact ga G (by decide) rfl | assumption) (by first | exact gr G (by decide) rfl | assumption) ?_
    | refine T_iconst (v := (nI 0)) (pc1 := 5) (pc := 4) k_M_drawn_4 rfl (by decide) ?_
    | refine T_aload_n (pc1 := 6) (pc := 5) k_M_drawn_5 rfl rfl ?_
    | refine T_aload_nN (pc1 := 6) (pc := 5) k_M_drawn_5 rfl rfl ?_
    | refine T_getR (pc1 := 9) (pc := 6) k_M_drawn_6 rfl f_M_9 rfl (by first | exact ga G (by decide) rfl | assumption) (by first | exact gr G (by decide) rfl | assumption) ?_
    | refine T_iconst (v := (nI 0)) (pc1 := 10) (pc := 9) k_M_drawn_9 rfl (by decide) ?_
    | refine T_ialdN (pc1 := 11) (pc := 10) k_M_drawn_10 rfl (by first | exact ga G (by decide) rfl | assumption) (by omega) (by omega) (by first | assumption | (simp (disch := omega) only [pI_eq, pI_row, pI_col, va_up_self, va_up_ne, ne_eq, not_false_eq_true, hN] <;> rfl) | rfl) ?_
    | refine T_iald (pc1 := 11) (pc := 10) k_M_drawn_10 rfl (by first | exact ga G (by decide) rfl | assumption) (by assumption) ?_
    | refine T_ldc (v := (nI 1103515245)) (pc1 := 13) (pc := 11) k_M_drawn_11 rfl c_M_159 ?_
    | with_reducible refine T_imulN (pc1 := 14) (pc := 13) k_M_drawn_13 (by decide) ?_
    | refine T_imul (pc1 := 14) (pc := 13) k_M_drawn_13 rfl ?_
    | refine T_sipush (v := (nI 12345)) (pc1 := 17) (pc := 14) k_M_drawn_14 rfl (by decide) ?_
    | with_reducible refine T_iaddN (pc1 := 18) (pc := 17) k_M_drawn_17 (by decide) ?_
    | refine T_iadd (pc1 := 18) (pc := 17) k_M_drawn_17 rfl ?_
    | refine T_iastN (pc1 := 19) (pc := 18) k_M_drawn_18 rfl (by first | exact ga G (by decide) rfl | assumption) (by omega) (by omega) ?_
    | refine T_aload_n (pc1 := 20) (pc := 19) k_M_drawn_19 rfl rfl ?_
    | refine T_aload_nN (pc1 := 20) (pc := 19) k_M_drawn_19 rfl rfl ?_
    | refine T_getR (pc1 := 23) (pc := 20) k_M_drawn_20 rfl f_M_9 rfl (by first | exact ga G (by decide) rfl | assumption) (by first | exact gr G (by decide) rfl | assumption) ?_
    | refine T_iconst (v := (nI 0)) (pc1 := 24) (pc := 23) k_M_drawn_23 rfl (by decide) ?_
    | refine T_ialdN (pc1 := 25) (pc := 24) k_M_drawn_24 rfl (by first | exact ga G (by decide) rfl | assumption) (by omega) (by omega) (by first | assumption | (simp (disch := omega) only [pI_eq, pI_row, pI_col, va_up_self, va_up_ne, ne_eq, not_false_eq_true, hN] <;> rfl) | rfl) ?_
    | refine T_iald (pc1 := 25) (pc := 24) k_M_drawn_24 rfl (by first | exact ga G (by decide) rfl | assumption) (by assumption) ?_
    | refine T_bipush (v := (nI 8)) (pc1 := 27) (pc := 25) k_M_drawn_25 rfl (by decide) ?_
    | refine T_iushr (pc1 := 28) (pc := 27) k_M_drawn_27 rfl ?_
    | refine T_iload_n (pc1 := 29) (pc := 28) k_M_drawn_28 rfl rfl ?_
    | with_reducible refine T_iremN (pc1 := 30) (pc := 29) k_M_drawn_29 (by decide) (by omega) (by omega) (by omega) ?_
    | refine T_irem (pc1 := 30) (pc := 29) k_M_drawn_29 rfl (by first | assumption | decide) ?_
    | refine T_retI (pc := 30) k_M_drawn_30 rfl (by first | rfl | decide | assumption) ?_)
  exact kk _ (eqx_pI eqx_rf _ (by decide)) (upI hN)
theorem dealS_5 {N : Row} {n : Nat} : dealS N n 5 = nI (n + 1) := by unfold dealS comesN; rw [va_up_self]
set_option maxHeartbeats 4000000 in
theorem c_M_deal {N : Row} {n : Nat} {v : Int32} (G : GeoOK g) (hN : I 102 = N) (h5 : N 5 = nI n) (hn : n ≤ 14) (kk : ∀ J r, eqx [102] I J → J 102 = dealN N n (dealM n v) → r = dealA n v → K (some (.int r)) g J) : Cl 2 M_M_deal [.ref 101, .int v] g I K := by
  show Rl 2 M_M_deal 0 [some (.ref 101), some (.int v), none, none, none, none, none] [] g I K
  have e1 : (nI 1).toInt = 1 := rfl
  have e14 : (nI 14).toInt = 14 := rfl
  by_cases hok : bt 1 14 v
  · rw [dealM, dealA, if_pos hok, if_pos hok] at kk
    obtain ⟨q, hq1, hq2, rfl⟩ := bt_of (lo := 1) (hi := 14) hok (by decide)
    rw [nI_clamp (by omega)] at kk
    have loop : ∀ r i n' o4 o5 o6 (N' : Row) (J : IM), i + r = min q (14 - n) → n' + r ≤ 14 → eqx [102] I J → J 102 = N' → N' 5 = nI n' → dealN N' n' r = dealN N n (min q (14 - n)) → Rl 2 M_M_deal 29 [some (.ref 101), some (.int (nI q)), some (.int (nI (min q (14 - n)))), some (.int (nI i)), o4, o5, o6] [] g J K := by
      intro r
      induction r with
      | zero =>
        intro i n' o4 o5 o6 N' J hi hn' hJ hJN h5' hd
        have hi : i = min q (14 - n) := by omega
        subst hi
        repeat' (first
          | refine T_iload_n (pc1 := 1) (pc := 0) k_M_deal_0 rfl rfl ?_
          | refine T_iconst (v := (nI 1)) (pc1 := 2) (pc := 1) k_M_deal_1 rfl (by decide) ?_
          | refine T_bipush (v := (nI 14)) (pc1 := 4) (pc := 2) k_M_deal_2 rfl (by decide) ?_
          | (refine T_cS (As := [_, _, _]) (d1 := 1) (pc1 := 7) (pc := 4) k_M_deal_4 rfl (by decide) (Nat.le_of_ble_eq_true rfl) rfl o_M_within l_M_95 rfl (c_M_within (fun hw => ?_) (fun hw => ?_)) <;> try dsimp only [psh])
          | (with_reducible refine T_if_neN (tgt := 13) (pc1 := 10) (pc := 7) k_M_deal_7 (by decide) (by decide) (by omega) (fun hc => ?_) (fun hc => ?_) <;> first | (exfalso; omega) | skip)
          | refine T_if_ne_t (tgt := 13) (pc := 7) k_M_deal_7 rfl (by decide) ?_
          | refine T_if_ne_f (tgt := 13) (pc1 := 10) (pc := 7) k_M_deal_7 rfl rfl (by decide) ?_
          | refine T_if_ne (tgt := 13) (pc1 := 10) (pc := 7) k_M_deal_7 rfl rfl (fun hc => ?_) (fun hc => ?_)
          | refine T_ldc (v := (-1000000001)) (pc1 := 12) (pc := 10) k_M_deal_10 rfl c_M_111 ?_
          | refine T_retI (pc := 12) k_M_deal_12 rfl (by first | rfl | decide | assumption) ?_
          | refine T_iload_n (pc1 := 14) (pc := 13) k_M_deal_13 rfl rfl ?_
          | refine T_bipush (v := (nI 14)) (pc1 := 16) (pc := 14) k_M_deal_14 rfl (by decide) ?_
          | refine T_aload_n (pc1 := 17) (pc := 16) k_M_deal_16 rfl rfl ?_
          | refine T_aload_nN (pc1 := 17) (pc := 16) k_M_deal_16 rfl rfl ?_
          | refine T_getR (pc1 := 20) (pc := 17) k_M_deal_17 rfl f_M_9 rfl (by first | exact ga G (by decide) rfl | assumption) (by first | exact gr G (by decide) rfl | assumption) ?_
          | refine T_iconst (v := (nI 5)) (pc1 := 21) (pc := 20) k_M_deal_20 rfl (by decide) ?_
          | refine T_ialdN (pc1 := 22) (pc := 21) k_M_deal_21 rfl (by first | exact ga G (by decide) rfl | assumption) (by omega) (by omega) (by first | assumption | (simp (disch := omega) only [pI_eq, pI_row, pI_col, va_up_self, va_up_ne, ne_eq, not_false_eq_true, hN] <;> rfl) | rfl) ?_
          | refine T_iald (pc1 := 22) (pc := 21) k_M_deal_21 rfl (by first | exact ga G (by decide) rfl | assumption) (by assumption) ?_
          | with_reducible refine T_isubN (pc1 := 23) (pc := 22) k_M_deal_22 (by decide) (by omega) ?_
          | refine T_isub (pc1 := 23) (pc := 22) k_M_deal_22 rfl ?_
          | refine T_mminV (pc1 := 26) (pc := 23) k_M_deal_23 rfl l_M_82 (by decide) (Nat.le_of_ble_eq_true rfl) (by with_reducible rfl) (by with_reducible rfl) (by omega) (by omega) ?_
          | refine T_mmin (pc1 := 26) (pc := 23) k_M_deal_23 rfl l_M_82 (by decide) (Nat.le_of_ble_eq_true rfl) ?_
          | refine T_istore_n (pc1 := 27) (pc := 26) k_M_deal_26 rfl (Nat.le_of_ble_eq_true rfl) ?_
          | refine T_iconst (v := (nI 0)) (pc1 := 28) (pc := 27) k_M_deal_27 rfl (by decide) ?_
          | refine T_istore_n (pc1 := 29) (pc := 28) k_M_deal_28 rfl (Nat.le_of_ble_eq_true rfl) ?_
          | refine T_iload_n (pc1 := 30) (pc := 29) k_M_deal_29 rfl rfl ?_
          | refine T_iload_n (pc1 := 31) (pc := 30) k_M_deal_30 rfl rfl ?_
          | (with_reducible refine T_icmp_geN (tgt := 91) (pc1 := 34) (pc := 31) k_M_deal_31 (by decide) (by decide) (by omega) (by omega) (fun hc => ?_) (fun hc => ?_) <;> first | (exfalso; omega) | skip)
          | refine T_icmp_ge_t (tgt := 91) (pc := 31) k_M_deal_31 rfl (by decide) ?_
          | refine T_icmp_ge_f (tgt := 91) (pc1 := 34) (pc := 31) k_M_deal_31 rfl rfl (by decide) ?_
          | refine T_icmp_ge (tgt := 91) (pc1 := 34) (pc := 31) k_M_deal_31 rfl rfl (fun hc => ?_) (fun hc => ?_)
          | refine T_aload_n (pc1 := 35) (pc := 34) k_M_deal_34 rfl rfl ?_
          | refine T_aload_nN (pc1 := 35) (pc := 34) k_M_deal_34 rfl rfl ?_
          | refine T_bipush (v := (nI 6)) (pc1 := 37) (pc := 35) k_M_deal_35 rfl (by decide) ?_
          | (refine T_cV (As := [_]) (d1 := 1) (pc1 := 40) (pc := 37) k_M_deal_37 rfl (by decide) (Nat.le_of_ble_eq_true rfl) rfl o_M_drawn l_M_160 rfl (by first | exact ga G (by decide) rfl | assumption) rfl (c_M_drawn G (by assumption) (by decide) (by decide) (fun J hJ hJN => ?_)) <;> try dsimp only [psh])
          | refine T_istore (pc1 := 42) (pc := 40) k_M_deal_40 rfl (Nat.le_of_ble_eq_true rfl) ?_
          | refine T_aload_n (pc1 := 43) (pc := 42) k_M_deal_42 rfl rfl ?_
          | refine T_aload_nN (pc1 := 43) (pc := 42) k_M_deal_42 rfl rfl ?_
          | refine T_bipush (v := (nI 8)) (pc1 := 45) (pc := 43) k_M_deal_43 rfl (by decide) ?_
          | (refine T_cV (As := [_]) (d1 := 1) (pc1 := 48) (pc := 45) k_M_deal_45 rfl (by decide) (Nat.le_of_ble_eq_true rfl) rfl o_M_drawn l_M_160 rfl (by first | exact ga G (by decide) rfl | assumption) rfl (c_M_drawn G (by assumption) (by decide) (by decide) (fun J hJ hJN => ?_)) <;> try dsimp only [psh])
          | refine T_istore (pc1 := 50) (pc := 48) k_M_deal_48 rfl (Nat.le_of_ble_eq_true rfl) ?_
          | refine T_iload (pc1 := 52) (pc := 50) k_M_deal_50 rfl rfl ?_
          | refine T_iconst (v := (nI 1)) (pc1 := 53) (pc := 52) k_M_deal_52 rfl (by decide) ?_
          | with_reducible refine T_iaddN (pc1 := 54) (pc := 53) k_M_deal_53 (by decide) ?_
          | refine T_iadd (pc1 := 54) (pc := 53) k_M_deal_53 rfl ?_
          | refine T_aload_n (pc1 := 55) (pc := 54) k_M_deal_54 rfl rfl ?_
          | refine T_aload_nN (pc1 := 55) (pc := 54) k_M_deal_54 rfl rfl ?_
          | refine T_bipush (v := (nI 7)) (pc1 := 57) (pc := 55) k_M_deal_55 rfl (by decide) ?_
          | (refine T_cV (As := [_]) (d1 := 1) (pc1 := 60) (pc := 57) k_M_deal_57 rfl (by decide) (Nat.le_of_ble_eq_true rfl) rfl o_M_drawn l_M_160 rfl (by first | exact ga G (by decide) rfl | assumption) rfl (c_M_drawn G (by assumption) (by decide) (by decide) (fun J hJ hJN => ?_)) <;> try dsimp only [psh])
          | with_reducible refine T_iaddN (pc1 := 61) (pc := 60) k_M_deal_60 (by decide) ?_
          | refine T_iadd (pc1 := 61) (pc := 60) k_M_deal_60 rfl ?_
          | refine T_bipush (v := (nI 8)) (pc1 := 63) (pc := 61) k_M_deal_61 rfl (by decide) ?_
          | with_reducible refine T_iremN (pc1 := 64) (pc := 63) k_M_deal_63 (by decide) (by omega) (by omega) (by omega) ?_
          | refine T_irem (pc1 := 64) (pc := 63) k_M_deal_63 rfl (by first | assumption | decide) ?_
          | refine T_istore (pc1 := 66) (pc := 64) k_M_deal_64 rfl (Nat.le_of_ble_eq_true rfl) ?_
          | refine T_aload_n (pc1 := 67) (pc := 66) k_M_deal_66 rfl rfl ?_
          | refine T_aload_nN (pc1 := 67) (pc := 66) k_M_deal_66 rfl rfl ?_
          | refine T_iload (pc1 := 69) (pc := 67) k_M_deal_67 rfl rfl ?_
          | refine T_iload (pc1 := 71) (pc := 69) k_M_deal_69 rfl rfl ?_
          | refine T_iload (pc1 := 73) (pc := 71) k_M_deal_71 rfl rfl ?_
          | refine T_iconst (v := (nI 1)) (pc1 := 74) (pc := 73) k_M_deal_73 rfl (by decide) ?_
          | refine T_aload_n (pc1 := 75) (pc := 74) k_M_deal_74 rfl rfl ?_
          | refine T_aload_nN (pc1 := 75) (pc := 74) k_M_deal_74 rfl rfl ?_
          | refine T_bipush (v := (nI 40)) (pc1 := 77) (pc := 75) k_M_deal_75 rfl (by decide) ?_
          | (refine T_cV (As := [_]) (d1 := 1) (pc1 := 80) (pc := 77) k_M_deal_77 rfl (by decide) (Nat.le_of_ble_eq_true rfl) rfl o_M_drawn l_M_160 rfl (by first | exact ga G (by decide) rfl | assumption) rfl (c_M_drawn G (by assumption) (by decide) (by decide) (fun J hJ hJN => ?_)) <;> try dsimp only [psh])
          | with_reducible refine T_iaddN (pc1 := 81) (pc := 80) k_M_deal_80 (by decide) ?_
          | refine T_iadd (pc1 := 81) (pc := 80) k_M_deal_80 rfl ?_
          | (refine T_cV (As := [_, _, _, _]) (d1 := 1) (pc1 := 84) (pc := 81) k_M_deal_81 rfl (by decide) (Nat.le_of_ble_eq_true rfl) rfl o_M_comes l_M_113 rfl (by first | exact ga G (by decide) rfl | assumption) rfl (c_M_comes G (by assumption) (by assumption) (by omega) (fun J hJ hJ2 => ?_)) <;> try dsimp only [psh])
          | refine T_pop (pc1 := 85) (pc := 84) k_M_deal_84 rfl rfl ?_
          | refine T_iincN (b := 1) (pc1 := 88) (pc := 85) k_M_deal_85 rfl rfl (by decide) ?_
          | refine T_iinc (v := (nI 1)) (pc1 := 88) (pc := 85) k_M_deal_85 rfl rfl (by decide) ?_
          | refine T_goto (tgt := 29) (pc := 88) k_M_deal_88 rfl ?_
          | refine T_iload_n (pc1 := 92) (pc := 91) k_M_deal_91 rfl rfl ?_
          | refine T_retI (pc := 92) k_M_deal_92 rfl (by first | rfl | decide | assumption) ?_)
        exact kk J _ hJ (by rw [hJN]; exact hd) rfl
      | succ r ih =>
        intro i n' o4 o5 o6 N' J hi hn' hJ hJN h5' hd
        refine T_iload_n (pc1 := 30) (pc := 29) k_M_deal_29 rfl rfl ?_
        repeat' (first
          | refine T_iload_n (pc1 := 31) (pc := 30) k_M_deal_30 rfl rfl ?_
          | (with_reducible refine T_icmp_geN (tgt := 91) (pc1 := 34) (pc := 31) k_M_deal_31 (by decide) (by decide) (by omega) (by omega) (fun hc => ?_) (fun hc => ?_) <;> first | (exfalso; omega) | skip)
          | refine T_icmp_ge_t (tgt := 91) (pc := 31) k_M_deal_31 rfl (by decide) ?_
          | refine T_icmp_ge_f (tgt := 91) (pc1 := 34) (pc := 31) k_M_deal_31 rfl rfl (by decide) ?_
          | refine T_icmp_ge (tgt := 91) (pc1 := 34) (pc := 31) k_M_deal_31 rfl rfl (fun hc => ?_) (fun hc => ?_)
          | refine T_aload_n (pc1 := 35) (pc := 34) k_M_deal_34 rfl rfl ?_
          | refine T_aload_nN (pc1 := 35) (pc := 34) k_M_deal_34 rfl rfl ?_
          | refine T_bipush (v := (nI 6)) (pc1 := 37) (pc := 35) k_M_deal_35 rfl (by decide) ?_)
        have q1 : ∀ z : Int32, dq z % 8 < 8 := fun z => Nat.mod_lt _ (by decide)
        have q2 : ∀ z : Int32, dq z % 7 < 7 := fun z => Nat.mod_lt _ (by decide)
        repeat' (first
          | refine T_iload_n (pc1 := 1) (pc := 0) k_M_deal_0 rfl rfl ?_
          | refine T_iconst (v := (nI 1)) (pc1 := 2) (pc := 1) k_M_deal_1 rfl (by decide) ?_
          | refine T_bipush (v := (nI 14)) (pc1 := 4) (pc := 2) k_M_deal_2 rfl (by decide) ?_
          | (refine T_cS (As := [_, _, _]) (d1 := 1) (pc1 := 7) (pc := 4) k_M_deal_4 rfl (by decide) (Nat.le_of_ble_eq_true rfl) rfl o_M_within l_M_95 rfl (c_M_within (fun hw => ?_) (fun hw => ?_)) <;> try dsimp only [psh])
          | (with_reducible refine T_if_neN (tgt := 13) (pc1 := 10) (pc := 7) k_M_deal_7 (by decide) (by decide) (by omega) (fun hc => ?_) (fun hc => ?_) <;> first | (exfalso; omega) | skip)
          | refine T_if_ne_t (tgt := 13) (pc := 7) k_M_deal_7 rfl (by decide) ?_
          | refine T_if_ne_f (tgt := 13) (pc1 := 10) (pc := 7) k_M_deal_7 rfl rfl (by decide) ?_
          | refine T_if_ne (tgt := 13) (pc1 := 10) (pc := 7) k_M_deal_7 rfl rfl (fun hc => ?_) (fun hc => ?_)
          | refine T_ldc (v := (-1000000001)) (pc1 := 12) (pc := 10) k_M_deal_10 rfl c_M_111 ?_
          | refine T_retI (pc := 12) k_M_deal_12 rfl (by first | rfl | decide | assumption) ?_
          | refine T_iload_n (pc1 := 14) (pc := 13) k_M_deal_13 rfl rfl ?_
          | refine T_bipush (v := (nI 14)) (pc1 := 16) (pc := 14) k_M_deal_14 rfl (by decide) ?_
          | refine T_aload_n (pc1 := 17) (pc := 16) k_M_deal_16 rfl rfl ?_
          | refine T_aload_nN (pc1 := 17) (pc := 16) k_M_deal_16 rfl rfl ?_
          | refine T_getR (pc1 := 20) (pc := 17) k_M_deal_17 rfl f_M_9 rfl (by first | exact ga G (by decide) rfl | assumption) (by first | exact gr G (by decide) rfl | assumption) ?_
          | refine T_iconst (v := (nI 5)) (pc1 := 21) (pc := 20) k_M_deal_20 rfl (by decide) ?_
          | refine T_ialdN (pc1 := 22) (pc := 21) k_M_deal_21 rfl (by first | exact ga G (by decide) rfl | assumption) (by omega) (by omega) (by first | assumption | (simp (disch := omega) only [pI_eq, pI_row, pI_col, va_up_self, va_up_ne, ne_eq, not_false_eq_true, hN] <;> rfl) | rfl) ?_
          | refine T_iald (pc1 := 22) (pc := 21) k_M_deal_21 rfl (by first | exact ga G (by decide) rfl | assumption) (by assumption) ?_
          | with_reducible refine T_isubN (pc1 := 23) (pc := 22) k_M_deal_22 (by decide) (by omega) ?_
          | refine T_isub (pc1 := 23) (pc := 22) k_M_deal_22 rfl ?_
          | refine T_mminV (pc1 := 26) (pc := 23) k_M_deal_23 rfl l_M_82 (by decide) (Nat.le_of_ble_eq_true rfl) (by with_reducible rfl) (by with_reducible rfl) (by omega) (by omega) ?_
          | refine T_mmin (pc1 := 26) (pc := 23) k_M_deal_23 rfl l_M_82 (by decide) (Nat.le_of_ble_eq_true rfl) ?_
          | refine T_istore_n (pc1 := 27) (pc := 26) k_M_deal_26 rfl (Nat.le_of_ble_eq_true rfl) ?_
          | refine T_iconst (v := (nI 0)) (pc1 := 28) (pc := 27) k_M_deal_27 rfl (by decide) ?_
          | refine T_istore_n (pc1 := 29) (pc := 28) k_M_deal_28 rfl (Nat.le_of_ble_eq_true rfl) ?_
          | refine T_iload_n (pc1 := 31) (pc := 30) k_M_deal_30 rfl rfl ?_
          | (with_reducible refine T_icmp_geN (tgt := 91) (pc1 := 34) (pc := 31) k_M_deal_31 (by decide) (by decide) (by omega) (by omega) (fun hc => ?_) (fun hc => ?_) <;> first | (exfalso; omega) | skip)
          | refine T_icmp_ge_t (tgt := 91) (pc := 31) k_M_deal_31 rfl (by decide) ?_
          | refine T_icmp_ge_f (tgt := 91) (pc1 := 34) (pc := 31) k_M_deal_31 rfl rfl (by decide) ?_
          | refine T_icmp_ge (tgt := 91) (pc1 := 34) (pc := 31) k_M_deal_31 rfl rfl (fun hc => ?_) (fun hc => ?_)
          | refine T_aload_n (pc1 := 35) (pc := 34) k_M_deal_34 rfl rfl ?_
          | refine T_aload_nN (pc1 := 35) (pc := 34) k_M_deal_34 rfl rfl ?_
          | refine T_bipush (v := (nI 6)) (pc1 := 37) (pc := 35) k_M_deal_35 rfl (by decide) ?_
          | (refine T_cV (As := [_]) (d1 := 1) (pc1 := 40) (pc := 37) k_M_deal_37 rfl (by decide) (Nat.le_of_ble_eq_true rfl) rfl o_M_drawn l_M_160 rfl (by first | exact ga G (by decide) rfl | assumption) rfl (c_M_drawn G hJN (by decide) (by decide) (fun J1 hJ1 hJN1 => ?_)) <;> try dsimp only [psh])
          | refine T_istore (pc1 := 42) (pc := 40) k_M_deal_40 rfl (Nat.le_of_ble_eq_true rfl) ?_
          | refine T_aload_n (pc1 := 43) (pc := 42) k_M_deal_42 rfl rfl ?_
          | refine T_aload_nN (pc1 := 43) (pc := 42) k_M_deal_42 rfl rfl ?_
          | refine T_bipush (v := (nI 8)) (pc1 := 45) (pc := 43) k_M_deal_43 rfl (by decide) ?_
          | (refine T_cV (As := [_]) (d1 := 1) (pc1 := 48) (pc := 45) k_M_deal_45 rfl (by decide) (Nat.le_of_ble_eq_true rfl) rfl o_M_drawn l_M_160 rfl (by first | exact ga G (by decide) rfl | assumption) rfl (c_M_drawn G hJN1 (by decide) (by decide) (fun J2 hJ2 hJN2 => ?_)) <;> try dsimp only [psh])
          | refine T_istore (pc1 := 50) (pc := 48) k_M_deal_48 rfl (Nat.le_of_ble_eq_true rfl) ?_
          | refine T_iload (pc1 := 52) (pc := 50) k_M_deal_50 rfl rfl ?_
          | refine T_iconst (v := (nI 1)) (pc1 := 53) (pc := 52) k_M_deal_52 rfl (by decide) ?_
          | with_reducible refine T_iaddN (pc1 := 54) (pc := 53) k_M_deal_53 (by decide) ?_
          | refine T_iadd (pc1 := 54) (pc := 53) k_M_deal_53 rfl ?_
          | refine T_aload_n (pc1 := 55) (pc := 54) k_M_deal_54 rfl rfl ?_
          | refine T_aload_nN (pc1 := 55) (pc := 54) k_M_deal_54 rfl rfl ?_
          | refine T_bipush (v := (nI 7)) (pc1 := 57) (pc := 55) k_M_deal_55 rfl (by decide) ?_
          | (refine T_cV (As := [_]) (d1 := 1) (pc1 := 60) (pc := 57) k_M_deal_57 rfl (by decide) (Nat.le_of_ble_eq_true rfl) rfl o_M_drawn l_M_160 rfl (by first | exact ga G (by decide) rfl | assumption) rfl (c_M_drawn G hJN2 (by decide) (by decide) (fun J3 hJ3 hJN3 => ?_)) <;> try dsimp only [psh])
          | with_reducible refine T_iaddN (pc1 := 61) (pc := 60) k_M_deal_60 (by decide) ?_
          | refine T_iadd (pc1 := 61) (pc := 60) k_M_deal_60 rfl ?_
          | refine T_bipush (v := (nI 8)) (pc1 := 63) (pc := 61) k_M_deal_61 rfl (by decide) ?_
          | refine T_istore (pc1 := 66) (pc := 64) k_M_deal_64 rfl (Nat.le_of_ble_eq_true rfl) ?_
          | refine T_aload_n (pc1 := 67) (pc := 66) k_M_deal_66 rfl rfl ?_
          | refine T_aload_nN (pc1 := 67) (pc := 66) k_M_deal_66 rfl rfl ?_
          | refine T_iload (pc1 := 69) (pc := 67) k_M_deal_67 rfl rfl ?_
          | refine T_iload (pc1 := 71) (pc := 69) k_M_deal_69 rfl rfl ?_
          | refine T_iload (pc1 := 73) (pc := 71) k_M_deal_71 rfl rfl ?_
          | refine T_iconst (v := (nI 1)) (pc1 := 74) (pc := 73) k_M_deal_73 rfl (by decide) ?_
          | refine T_aload_n (pc1 := 75) (pc := 74) k_M_deal_74 rfl rfl ?_
          | refine T_aload_nN (pc1 := 75) (pc := 74) k_M_deal_74 rfl rfl ?_
          | refine T_bipush (v := (nI 40)) (pc1 := 77) (pc := 75) k_M_deal_75 rfl (by decide) ?_
          | (refine T_cV (As := [_]) (d1 := 1) (pc1 := 80) (pc := 77) k_M_deal_77 rfl (by decide) (Nat.le_of_ble_eq_true rfl) rfl o_M_drawn l_M_160 rfl (by first | exact ga G (by decide) rfl | assumption) rfl (c_M_drawn G hJN3 (by decide) (by decide) (fun J4 hJ4 hJN4 => ?_)) <;> try dsimp only [psh])
          | with_reducible refine T_iaddN (pc1 := 81) (pc := 80) k_M_deal_80 (by decide) ?_
          | refine T_iadd (pc1 := 81) (pc := 80) k_M_deal_80 rfl ?_
          | (refine T_cV (As := [_, _, _, _]) (d1 := 1) (pc1 := 84) (pc := 81) k_M_deal_81 rfl (by decide) (Nat.le_of_ble_eq_true rfl) rfl o_M_comes l_M_113 rfl (by first | exact ga G (by decide) rfl | assumption) rfl (c_M_comes (n := n') G hJN4 (by rw [va_up_ne _ _ (by decide), va_up_ne _ _ (by decide), va_up_ne _ _ (by decide), va_up_ne _ _ (by decide)]; exact h5') (by omega) (fun J5 hJ5 hJN5 => ?_)) <;> try dsimp only [psh])
          | refine T_pop (pc1 := 85) (pc := 84) k_M_deal_84 rfl rfl ?_
          | refine T_iincN (b := 1) (pc1 := 88) (pc := 85) k_M_deal_85 rfl rfl (by decide) ?_
          | refine T_iinc (v := (nI 1)) (pc1 := 88) (pc := 85) k_M_deal_85 rfl rfl (by decide) ?_
          | refine T_goto (tgt := 29) (pc := 88) k_M_deal_88 rfl ?_
          | refine T_iload_n (pc1 := 92) (pc := 91) k_M_deal_91 rfl rfl ?_
          | refine T_retI (pc := 92) k_M_deal_92 rfl (by first | rfl | decide | assumption) ?_)
        · have a1 := q1 (va_up N' 0 (dz (N' 0)) 0 |> dz)
          have a2 := q2 (va_up (va_up N' 0 (dz (N' 0))) 0 (dz (va_up N' 0 (dz (N' 0)) 0)) 0 |> dz)
          repeat' (first
            | refine T_iload_n (pc1 := 1) (pc := 0) k_M_deal_0 rfl rfl ?_
            | refine T_iconst (v := (nI 1)) (pc1 := 2) (pc := 1) k_M_deal_1 rfl (by decide) ?_
            | refine T_bipush (v := (nI 14)) (pc1 := 4) (pc := 2) k_M_deal_2 rfl (by decide) ?_
            | (refine T_cS (As := [_, _, _]) (d1 := 1) (pc1 := 7) (pc := 4) k_M_deal_4 rfl (by decide) (Nat.le_of_ble_eq_true rfl) rfl o_M_within l_M_95 rfl (c_M_within (fun hw => ?_) (fun hw => ?_)) <;> try dsimp only [psh])
            | (with_reducible refine T_if_neN (tgt := 13) (pc1 := 10) (pc := 7) k_M_deal_7 (by decide) (by decide) (by omega) (fun hc => ?_) (fun hc => ?_) <;> first | (exfalso; omega) | skip)
            | refine T_if_ne_t (tgt := 13) (pc := 7) k_M_deal_7 rfl (by decide) ?_
            | refine T_if_ne_f (tgt := 13) (pc1 := 10) (pc := 7) k_M_deal_7 rfl rfl (by decide) ?_
            | refine T_if_ne (tgt := 13) (pc1 := 10) (pc := 7) k_M_deal_7 rfl rfl (fun hc => ?_) (fun hc => ?_)
            | refine T_ldc (v := (-1000000001)) (pc1 := 12) (pc := 10) k_M_deal_10 rfl c_M_111 ?_
            | refine T_retI (pc := 12) k_M_deal_12 rfl (by first | rfl | decide | assumption) ?_
            | refine T_iload_n (pc1 := 14) (pc := 13) k_M_deal_13 rfl rfl ?_
            | refine T_bipush (v := (nI 14)) (pc1 := 16) (pc := 14) k_M_deal_14 rfl (by decide) ?_
            | refine T_aload_n (pc1 := 17) (pc := 16) k_M_deal_16 rfl rfl ?_
            | refine T_aload_nN (pc1 := 17) (pc := 16) k_M_deal_16 rfl rfl ?_
            | refine T_getR (pc1 := 20) (pc := 17) k_M_deal_17 rfl f_M_9 rfl (by first | exact ga G (by decide) rfl | assumption) (by first | exact gr G (by decide) rfl | assumption) ?_
            | refine T_iconst (v := (nI 5)) (pc1 := 21) (pc := 20) k_M_deal_20 rfl (by decide) ?_
            | refine T_ialdN (pc1 := 22) (pc := 21) k_M_deal_21 rfl (by first | exact ga G (by decide) rfl | assumption) (by omega) (by omega) (by first | assumption | (simp (disch := omega) only [pI_eq, pI_row, pI_col, va_up_self, va_up_ne, ne_eq, not_false_eq_true, hN] <;> rfl) | rfl) ?_
            | refine T_iald (pc1 := 22) (pc := 21) k_M_deal_21 rfl (by first | exact ga G (by decide) rfl | assumption) (by assumption) ?_
            | with_reducible refine T_isubN (pc1 := 23) (pc := 22) k_M_deal_22 (by decide) (by omega) ?_
            | refine T_isub (pc1 := 23) (pc := 22) k_M_deal_22 rfl ?_
            | refine T_mminV (pc1 := 26) (pc := 23) k_M_deal_23 rfl l_M_82 (by decide) (Nat.le_of_ble_eq_true rfl) (by with_reducible rfl) (by with_reducible rfl) (by omega) (by omega) ?_
            | refine T_mmin (pc1 := 26) (pc := 23) k_M_deal_23 rfl l_M_82 (by decide) (Nat.le_of_ble_eq_true rfl) ?_
            | refine T_istore_n (pc1 := 27) (pc := 26) k_M_deal_26 rfl (Nat.le_of_ble_eq_true rfl) ?_
            | refine T_iconst (v := (nI 0)) (pc1 := 28) (pc := 27) k_M_deal_27 rfl (by decide) ?_
            | refine T_istore_n (pc1 := 29) (pc := 28) k_M_deal_28 rfl (Nat.le_of_ble_eq_true rfl) ?_
            | refine T_iload_n (pc1 := 31) (pc := 30) k_M_deal_30 rfl rfl ?_
            | (with_reducible refine T_icmp_geN (tgt := 91) (pc1 := 34) (pc := 31) k_M_deal_31 (by decide) (by decide) (by omega) (by omega) (fun hc => ?_) (fun hc => ?_) <;> first | (exfalso; omega) | skip)
            | refine T_icmp_ge_t (tgt := 91) (pc := 31) k_M_deal_31 rfl (by decide) ?_
            | refine T_icmp_ge_f (tgt := 91) (pc1 := 34) (pc := 31) k_M_deal_31 rfl rfl (by decide) ?_
            | refine T_icmp_ge (tgt := 91) (pc1 := 34) (pc := 31) k_M_deal_31 rfl rfl (fun hc => ?_) (fun hc => ?_)
            | refine T_aload_n (pc1 := 35) (pc := 34) k_M_deal_34 rfl rfl ?_
            | refine T_aload_nN (pc1 := 35) (pc := 34) k_M_deal_34 rfl rfl ?_
            | refine T_bipush (v := (nI 6)) (pc1 := 37) (pc := 35) k_M_deal_35 rfl (by decide) ?_
            | (refine T_cV (As := [_]) (d1 := 1) (pc1 := 40) (pc := 37) k_M_deal_37 rfl (by decide) (Nat.le_of_ble_eq_true rfl) rfl o_M_drawn l_M_160 rfl (by first | exact ga G (by decide) rfl | assumption) rfl (c_M_drawn G hJN (by decide) (by decide) (fun J1 hJ1 hJN1 => ?_)) <;> try dsimp only [psh])
            | refine T_istore (pc1 := 42) (pc := 40) k_M_deal_40 rfl (Nat.le_of_ble_eq_true rfl) ?_
            | refine T_aload_n (pc1 := 43) (pc := 42) k_M_deal_42 rfl rfl ?_
            | refine T_aload_nN (pc1 := 43) (pc := 42) k_M_deal_42 rfl rfl ?_
            | refine T_bipush (v := (nI 8)) (pc1 := 45) (pc := 43) k_M_deal_43 rfl (by decide) ?_
            | (refine T_cV (As := [_]) (d1 := 1) (pc1 := 48) (pc := 45) k_M_deal_45 rfl (by decide) (Nat.le_of_ble_eq_true rfl) rfl o_M_drawn l_M_160 rfl (by first | exact ga G (by decide) rfl | assumption) rfl (c_M_drawn G hJN1 (by decide) (by decide) (fun J2 hJ2 hJN2 => ?_)) <;> try dsimp only [psh])
            | refine T_istore (pc1 := 50) (pc := 48) k_M_deal_48 rfl (Nat.le_of_ble_eq_true rfl) ?_
            | refine T_iload (pc1 := 52) (pc := 50) k_M_deal_50 rfl rfl ?_
            | refine T_iconst (v := (nI 1)) (pc1 := 53) (pc := 52) k_M_deal_52 rfl (by decide) ?_
            | with_reducible refine T_iaddN (pc1 := 54) (pc := 53) k_M_deal_53 (by decide) ?_
            | refine T_iadd (pc1 := 54) (pc := 53) k_M_deal_53 rfl ?_
            | refine T_aload_n (pc1 := 55) (pc := 54) k_M_deal_54 rfl rfl ?_
            | refine T_aload_nN (pc1 := 55) (pc := 54) k_M_deal_54 rfl rfl ?_
            | refine T_bipush (v := (nI 7)) (pc1 := 57) (pc := 55) k_M_deal_55 rfl (by decide) ?_
            | (refine T_cV (As := [_]) (d1 := 1) (pc1 := 60) (pc := 57) k_M_deal_57 rfl (by decide) (Nat.le_of_ble_eq_true rfl) rfl o_M_drawn l_M_160 rfl (by first | exact ga G (by decide) rfl | assumption) rfl (c_M_drawn G hJN2 (by decide) (by decide) (fun J3 hJ3 hJN3 => ?_)) <;> try dsimp only [psh])
            | with_reducible refine T_iaddN (pc1 := 61) (pc := 60) k_M_deal_60 (by decide) ?_
            | refine T_iadd (pc1 := 61) (pc := 60) k_M_deal_60 rfl ?_
            | refine T_bipush (v := (nI 8)) (pc1 := 63) (pc := 61) k_M_deal_61 rfl (by decide) ?_
            | with_reducible refine T_iremN (pc1 := 64) (pc := 63) k_M_deal_63 (by decide) (by omega) (by omega) (by omega) ?_
            | refine T_irem (pc1 := 64) (pc := 63) k_M_deal_63 rfl (by first | assumption | decide) ?_
            | refine T_istore (pc1 := 66) (pc := 64) k_M_deal_64 rfl (Nat.le_of_ble_eq_true rfl) ?_
            | refine T_aload_n (pc1 := 67) (pc := 66) k_M_deal_66 rfl rfl ?_
            | refine T_aload_nN (pc1 := 67) (pc := 66) k_M_deal_66 rfl rfl ?_
            | refine T_iload (pc1 := 69) (pc := 67) k_M_deal_67 rfl rfl ?_
            | refine T_iload (pc1 := 71) (pc := 69) k_M_deal_69 rfl rfl ?_
            | refine T_iload (pc1 := 73) (pc := 71) k_M_deal_71 rfl rfl ?_
            | refine T_iconst (v := (nI 1)) (pc1 := 74) (pc := 73) k_M_deal_73 rfl (by decide) ?_
            | refine T_aload_n (pc1 := 75) (pc := 74) k_M_deal_74 rfl rfl ?_
            | refine T_aload_nN (pc1 := 75) (pc := 74) k_M_deal_74 rfl rfl ?_
            | refine T_bipush (v := (nI 40)) (pc1 := 77) (pc := 75) k_M_deal_75 rfl (by decide) ?_
            | (refine T_cV (As := [_]) (d1 := 1) (pc1 := 80) (pc := 77) k_M_deal_77 rfl (by decide) (Nat.le_of_ble_eq_true rfl) rfl o_M_drawn l_M_160 rfl (by first | exact ga G (by decide) rfl | assumption) rfl (c_M_drawn G hJN3 (by decide) (by decide) (fun J4 hJ4 hJN4 => ?_)) <;> try dsimp only [psh])
            | with_reducible refine T_iaddN (pc1 := 81) (pc := 80) k_M_deal_80 (by decide) ?_
            | refine T_iadd (pc1 := 81) (pc := 80) k_M_deal_80 rfl ?_
            | (refine T_cV (As := [_, _, _, _]) (d1 := 1) (pc1 := 84) (pc := 81) k_M_deal_81 rfl (by decide) (Nat.le_of_ble_eq_true rfl) rfl o_M_comes l_M_113 rfl (by first | exact ga G (by decide) rfl | assumption) rfl (c_M_comes (n := n') G hJN4 (by rw [va_up_ne _ _ (by decide), va_up_ne _ _ (by decide), va_up_ne _ _ (by decide), va_up_ne _ _ (by decide)]; exact h5') (by omega) (fun J5 hJ5 hJN5 => ?_)) <;> try dsimp only [psh])
            | refine T_pop (pc1 := 85) (pc := 84) k_M_deal_84 rfl rfl ?_
            | refine T_iincN (b := 1) (pc1 := 88) (pc := 85) k_M_deal_85 rfl rfl (by decide) ?_
            | refine T_iinc (v := (nI 1)) (pc1 := 88) (pc := 85) k_M_deal_85 rfl rfl (by decide) ?_
            | refine T_goto (tgt := 29) (pc := 88) k_M_deal_88 rfl ?_
            | refine T_iload_n (pc1 := 92) (pc := 91) k_M_deal_91 rfl rfl ?_
            | refine T_retI (pc := 92) k_M_deal_92 rfl (by first | rfl | decide | assumption) ?_)
          refine ih _ (n' + 1) _ _ _ _ J5 (by omega) (by omega) (eqx_tr hJ (eqx_tr hJ1 (eqx_tr hJ2 (eqx_tr hJ3 (eqx_tr hJ4 hJ5))))) hJN5 (by unfold comesN; rw [va_up_self]) ?_
          rw [← hd, dealN]
          congr 1
          unfold dealS
          have ev : ∀ (f : Row) (i : Nat) (x y : Int32), va_up (va_up f i x) i y = va_up f i y := fun f i x y => bx_uu f i x y
          simp only [va_up_self, ev]
    repeat' (first
      | refine T_iload_n (pc1 := 1) (pc := 0) k_M_deal_0 rfl rfl ?_
      | refine T_iconst (v := (nI 1)) (pc1 := 2) (pc := 1) k_M_deal_1 rfl (by decide) ?_
      | refine T_bipush (v := (nI 14)) (pc1 := 4) (pc := 2) k_M_deal_2 rfl (by decide) ?_
      | (refine T_cS (As := [_, _, _]) (d1 := 1) (pc1 := 7) (pc := 4) k_M_deal_4 rfl (by decide) (Nat.le_of_ble_eq_true rfl) rfl o_M_within l_M_95 rfl (c_M_within (fun hw => ?_) (fun hw => ?_)) <;> try dsimp only [psh])
      | (with_reducible refine T_if_neN (tgt := 13) (pc1 := 10) (pc := 7) k_M_deal_7 (by decide) (by decide) (by omega) (fun hc => ?_) (fun hc => ?_) <;> first | (exfalso; omega) | skip)
      | refine T_if_ne_t (tgt := 13) (pc := 7) k_M_deal_7 rfl (by decide) ?_
      | refine T_if_ne_f (tgt := 13) (pc1 := 10) (pc := 7) k_M_deal_7 rfl rfl (by decide) ?_
      | refine T_if_ne (tgt := 13) (pc1 := 10) (pc := 7) k_M_deal_7 rfl rfl (fun hc => ?_) (fun hc => ?_)
      | refine T_ldc (v := (-1000000001)) (pc1 := 12) (pc := 10) k_M_deal_10 rfl c_M_111 ?_
      | refine T_retI (pc := 12) k_M_deal_12 rfl (by first | rfl | decide | assumption) ?_
      | refine T_iload_n (pc1 := 14) (pc := 13) k_M_deal_13 rfl rfl ?_
      | refine T_bipush (v := (nI 14)) (pc1 := 16) (pc := 14) k_M_deal_14 rfl (by decide) ?_
      | refine T_aload_n (pc1 := 17) (pc := 16) k_M_deal_16 rfl rfl ?_
      | refine T_aload_nN (pc1 := 17) (pc := 16) k_M_deal_16 rfl rfl ?_
      | refine T_getR (pc1 := 20) (pc := 17) k_M_deal_17 rfl f_M_9 rfl (by first | exact ga G (by decide) rfl | assumption) (by first | exact gr G (by decide) rfl | assumption) ?_
      | refine T_iconst (v := (nI 5)) (pc1 := 21) (pc := 20) k_M_deal_20 rfl (by decide) ?_
      | refine T_ialdN (pc1 := 22) (pc := 21) k_M_deal_21 rfl (by first | exact ga G (by decide) rfl | assumption) (by omega) (by omega) (by first | assumption | (simp (disch := omega) only [pI_eq, pI_row, pI_col, va_up_self, va_up_ne, ne_eq, not_false_eq_true, hN, h5] <;> rfl) | rfl) ?_
      | refine T_iald (pc1 := 22) (pc := 21) k_M_deal_21 rfl (by first | exact ga G (by decide) rfl | assumption) (by assumption) ?_
      | with_reducible refine T_isubN (pc1 := 23) (pc := 22) k_M_deal_22 (by decide) (by omega) ?_
      | refine T_isub (pc1 := 23) (pc := 22) k_M_deal_22 rfl ?_
      | refine T_mminV (pc1 := 26) (pc := 23) k_M_deal_23 rfl l_M_82 (by decide) (Nat.le_of_ble_eq_true rfl) (by with_reducible rfl) (by with_reducible rfl) (by omega) (by omega) ?_
      | refine T_mmin (pc1 := 26) (pc := 23) k_M_deal_23 rfl l_M_82 (by decide) (Nat.le_of_ble_eq_true rfl) ?_
      | refine T_iconst (v := (nI 0)) (pc1 := 28) (pc := 27) k_M_deal_27 rfl (by decide) ?_
      | refine T_istore_n (pc1 := 29) (pc := 28) k_M_deal_28 rfl (Nat.le_of_ble_eq_true rfl) ?_
      | refine T_iload_n (pc1 := 31) (pc := 30) k_M_deal_30 rfl rfl ?_
      | (with_reducible refine T_icmp_geN (tgt := 91) (pc1 := 34) (pc := 31) k_M_deal_31 (by decide) (by decide) (by omega) (by omega) (fun hc => ?_) (fun hc => ?_) <;> first | (exfalso; omega) | skip)
      | refine T_icmp_ge_t (tgt := 91) (pc := 31) k_M_deal_31 rfl (by decide) ?_
      | refine T_icmp_ge_f (tgt := 91) (pc1 := 34) (pc := 31) k_M_deal_31 rfl rfl (by decide) ?_
      | refine T_icmp_ge (tgt := 91) (pc1 := 34) (pc := 31) k_M_deal_31 rfl rfl (fun hc => ?_) (fun hc => ?_)
      | refine T_aload_n (pc1 := 35) (pc := 34) k_M_deal_34 rfl rfl ?_
      | refine T_aload_nN (pc1 := 35) (pc := 34) k_M_deal_34 rfl rfl ?_
      | refine T_bipush (v := (nI 6)) (pc1 := 37) (pc := 35) k_M_deal_35 rfl (by decide) ?_
      | (refine T_cV (As := [_]) (d1 := 1) (pc1 := 40) (pc := 37) k_M_deal_37 rfl (by decide) (Nat.le_of_ble_eq_true rfl) rfl o_M_drawn l_M_160 rfl (by first | exact ga G (by decide) rfl | assumption) rfl (c_M_drawn G hJN (by decide) (by decide) (fun J1 hJ1 hJN1 => ?_)) <;> try dsimp only [psh])
      | refine T_istore (pc1 := 42) (pc := 40) k_M_deal_40 rfl (Nat.le_of_ble_eq_true rfl) ?_
      | refine T_aload_n (pc1 := 43) (pc := 42) k_M_deal_42 rfl rfl ?_
      | refine T_aload_nN (pc1 := 43) (pc := 42) k_M_deal_42 rfl rfl ?_
      | refine T_bipush (v := (nI 8)) (pc1 := 45) (pc := 43) k_M_deal_43 rfl (by decide) ?_
      | (refine T_cV (As := [_]) (d1 := 1) (pc1 := 48) (pc := 45) k_M_deal_45 rfl (by decide) (Nat.le_of_ble_eq_true rfl) rfl o_M_drawn l_M_160 rfl (by first | exact ga G (by decide) rfl | assumption) rfl (c_M_drawn G hJN1 (by decide) (by decide) (fun J2 hJ2 hJN2 => ?_)) <;> try dsimp only [psh])
      | refine T_istore (pc1 := 50) (pc := 48) k_M_deal_48 rfl (Nat.le_of_ble_eq_true rfl) ?_
      | refine T_iload (pc1 := 52) (pc := 50) k_M_deal_50 rfl rfl ?_
      | refine T_iconst (v := (nI 1)) (pc1 := 53) (pc := 52) k_M_deal_52 rfl (by decide) ?_
      | with_reducible refine T_iaddN (pc1 := 54) (pc := 53) k_M_deal_53 (by decide) ?_
      | refine T_iadd (pc1 := 54) (pc := 53) k_M_deal_53 rfl ?_
      | refine T_aload_n (pc1 := 55) (pc := 54) k_M_deal_54 rfl rfl ?_
      | refine T_aload_nN (pc1 := 55) (pc := 54) k_M_deal_54 rfl rfl ?_
      | refine T_bipush (v := (nI 7)) (pc1 := 57) (pc := 55) k_M_deal_55 rfl (by decide) ?_
      | (refine T_cV (As := [_]) (d1 := 1) (pc1 := 60) (pc := 57) k_M_deal_57 rfl (by decide) (Nat.le_of_ble_eq_true rfl) rfl o_M_drawn l_M_160 rfl (by first | exact ga G (by decide) rfl | assumption) rfl (c_M_drawn G hJN2 (by decide) (by decide) (fun J3 hJ3 hJN3 => ?_)) <;> try dsimp only [psh])
      | with_reducible refine T_iaddN (pc1 := 61) (pc := 60) k_M_deal_60 (by decide) ?_
      | refine T_iadd (pc1 := 61) (pc := 60) k_M_deal_60 rfl ?_
      | refine T_bipush (v := (nI 8)) (pc1 := 63) (pc := 61) k_M_deal_61 rfl (by decide) ?_
      | with_reducible refine T_iremN (pc1 := 64) (pc := 63) k_M_deal_63 (by decide) (by omega) (by omega) (by omega) ?_
      | refine T_irem (pc1 := 64) (pc := 63) k_M_deal_63 rfl (by first | assumption | decide) ?_
      | refine T_istore (pc1 := 66) (pc := 64) k_M_deal_64 rfl (Nat.le_of_ble_eq_true rfl) ?_
      | refine T_aload_n (pc1 := 67) (pc := 66) k_M_deal_66 rfl rfl ?_
      | refine T_aload_nN (pc1 := 67) (pc := 66) k_M_deal_66 rfl rfl ?_
      | refine T_iload (pc1 := 69) (pc := 67) k_M_deal_67 rfl rfl ?_
      | refine T_iload (pc1 := 71) (pc := 69) k_M_deal_69 rfl rfl ?_
      | refine T_iload (pc1 := 73) (pc := 71) k_M_deal_71 rfl rfl ?_
      | refine T_iconst (v := (nI 1)) (pc1 := 74) (pc := 73) k_M_deal_73 rfl (by decide) ?_
      | refine T_aload_n (pc1 := 75) (pc := 74) k_M_deal_74 rfl rfl ?_
      | refine T_aload_nN (pc1 := 75) (pc := 74) k_M_deal_74 rfl rfl ?_
      | refine T_bipush (v := (nI 40)) (pc1 := 77) (pc := 75) k_M_deal_75 rfl (by decide) ?_
      | (refine T_cV (As := [_]) (d1 := 1) (pc1 := 80) (pc := 77) k_M_deal_77 rfl (by decide) (Nat.le_of_ble_eq_true rfl) rfl o_M_drawn l_M_160 rfl (by first | exact ga G (by decide) rfl | assumption) rfl (c_M_drawn G hJN3 (by decide) (by decide) (fun J4 hJ4 hJN4 => ?_)) <;> try dsimp only [psh])
      | with_reducible refine T_iaddN (pc1 := 81) (pc := 80) k_M_deal_80 (by decide) ?_
      | refine T_iadd (pc1 := 81) (pc := 80) k_M_deal_80 rfl ?_
      | (refine T_cV (As := [_, _, _, _]) (d1 := 1) (pc1 := 84) (pc := 81) k_M_deal_81 rfl (by decide) (Nat.le_of_ble_eq_true rfl) rfl o_M_comes l_M_113 rfl (by first | exact ga G (by decide) rfl | assumption) rfl (c_M_comes (n := n') G hJN4 (by rw [va_up_ne _ _ (by decide), va_up_ne _ _ (by decide), va_up_ne _ _ (by decide), va_up_ne _ _ (by decide)]; exact h5') (by omega) (fun J5 hJ5 hJN5 => ?_)) <;> try dsimp only [psh])
      | refine T_pop (pc1 := 85) (pc := 84) k_M_deal_84 rfl rfl ?_
      | refine T_iincN (b := 1) (pc1 := 88) (pc := 85) k_M_deal_85 rfl rfl (by decide) ?_
      | refine T_iinc (v := (nI 1)) (pc1 := 88) (pc := 85) k_M_deal_85 rfl rfl (by decide) ?_
      | refine T_goto (tgt := 29) (pc := 88) k_M_deal_88 rfl ?_
      | refine T_iload_n (pc1 := 92) (pc := 91) k_M_deal_91 rfl rfl ?_
      | refine T_retI (pc := 92) k_M_deal_92 rfl (by first | rfl | decide | assumption) ?_)
    repeat' (first
      | refine T_iload_n (pc1 := 1) (pc := 0) k_M_deal_0 rfl rfl ?_
      | refine T_iconst (v := (nI 1)) (pc1 := 2) (pc := 1) k_M_deal_1 rfl (by decide) ?_
      | refine T_bipush (v := (nI 14)) (pc1 := 4) (pc := 2) k_M_deal_2 rfl (by decide) ?_
      | (refine T_cS (As := [_, _, _]) (d1 := 1) (pc1 := 7) (pc := 4) k_M_deal_4 rfl (by decide) (Nat.le_of_ble_eq_true rfl) rfl o_M_within l_M_95 rfl (c_M_within (fun hw => ?_) (fun hw => ?_)) <;> try dsimp only [psh])
      | (with_reducible refine T_if_neN (tgt := 13) (pc1 := 10) (pc := 7) k_M_deal_7 (by decide) (by decide) (by omega) (fun hc => ?_) (fun hc => ?_) <;> first | (exfalso; omega) | skip)
      | refine T_if_ne_t (tgt := 13) (pc := 7) k_M_deal_7 rfl (by decide) ?_
      | refine T_if_ne_f (tgt := 13) (pc1 := 10) (pc := 7) k_M_deal_7 rfl rfl (by decide) ?_
      | refine T_if_ne (tgt := 13) (pc1 := 10) (pc := 7) k_M_deal_7 rfl rfl (fun hc => ?_) (fun hc => ?_)
      | refine T_ldc (v := (-1000000001)) (pc1 := 12) (pc := 10) k_M_deal_10 rfl c_M_111 ?_
      | refine T_retI (pc := 12) k_M_deal_12 rfl (by first | rfl | decide | assumption) ?_
      | refine T_iload_n (pc1 := 14) (pc := 13) k_M_deal_13 rfl rfl ?_
      | refine T_bipush (v := (nI 14)) (pc1 := 16) (pc := 14) k_M_deal_14 rfl (by decide) ?_
      | refine T_aload_n (pc1 := 17) (pc := 16) k_M_deal_16 rfl rfl ?_
      | refine T_aload_nN (pc1 := 17) (pc := 16) k_M_deal_16 rfl rfl ?_
      | refine T_getR (pc1 := 20) (pc := 17) k_M_deal_17 rfl f_M_9 rfl (by first | exact ga G (by decide) rfl | assumption) (by first | exact gr G (by decide) rfl | assumption) ?_
      | refine T_iconst (v := (nI 5)) (pc1 := 21) (pc := 20) k_M_deal_20 rfl (by decide) ?_
      | refine T_ialdN (pc1 := 22) (pc := 21) k_M_deal_21 rfl (by first | exact ga G (by decide) rfl | assumption) (by omega) (by omega) (by first | assumption | (simp (disch := omega) only [pI_eq, pI_row, pI_col, va_up_self, va_up_ne, ne_eq, not_false_eq_true, hN, h5] <;> rfl) | rfl) ?_
      | refine T_iald (pc1 := 22) (pc := 21) k_M_deal_21 rfl (by first | exact ga G (by decide) rfl | assumption) (by assumption) ?_
      | with_reducible refine T_isubN (pc1 := 23) (pc := 22) k_M_deal_22 (by decide) (by omega) ?_
      | refine T_isub (pc1 := 23) (pc := 22) k_M_deal_22 rfl ?_
      | refine T_mminV (pc1 := 26) (pc := 23) k_M_deal_23 rfl l_M_82 (by decide) (Nat.le_of_ble_eq_true rfl) (by with_reducible rfl) (by with_reducible rfl) (by omega) (by omega) ?_
      | refine T_mmin (pc1 := 26) (pc := 23) k_M_deal_23 rfl l_M_82 (by decide) (Nat.le_of_ble_eq_true rfl) ?_
      | refine T_istore_n (pc1 := 27) (pc := 26) k_M_deal_26 rfl (Nat.le_of_ble_eq_true rfl) ?_
      | refine T_iconst (v := (nI 0)) (pc1 := 28) (pc := 27) k_M_deal_27 rfl (by decide) ?_
      | refine T_istore_n (pc1 := 29) (pc := 28) k_M_deal_28 rfl (Nat.le_of_ble_eq_true rfl) ?_
      | refine T_iload_n (pc1 := 31) (pc := 30) k_M_deal_30 rfl rfl ?_
      | (with_reducible refine T_icmp_geN (tgt := 91) (pc1 := 34) (pc := 31) k_M_deal_31 (by decide) (by decide) (by omega) (by omega) (fun hc => ?_) (fun hc => ?_) <;> first | (exfalso; omega) | skip)
      | refine T_icmp_ge_t (tgt := 91) (pc := 31) k_M_deal_31 rfl (by decide) ?_
      | refine T_icmp_ge_f (tgt := 91) (pc1 := 34) (pc := 31) k_M_deal_31 rfl rfl (by decide) ?_
      | refine T_icmp_ge (tgt := 91) (pc1 := 34) (pc := 31) k_M_deal_31 rfl rfl (fun hc => ?_) (fun hc => ?_)
      | refine T_aload_n (pc1 := 35) (pc := 34) k_M_deal_34 rfl rfl ?_
      | refine T_aload_nN (pc1 := 35) (pc := 34) k_M_deal_34 rfl rfl ?_
      | refine T_bipush (v := (nI 6)) (pc1 := 37) (pc := 35) k_M_deal_35 rfl (by decide) ?_
      | (refine T_cV (As := [_]) (d1 := 1) (pc1 := 40) (pc := 37) k_M_deal_37 rfl (by decide) (Nat.le_of_ble_eq_true rfl) rfl o_M_drawn l_M_160 rfl (by first | exact ga G (by decide) rfl | assumption) rfl (c_M_drawn G hJN (by decide) (by decide) (fun J1 hJ1 hJN1 => ?_)) <;> try dsimp only [psh])
      | refine T_istore (pc1 := 42) (pc := 40) k_M_deal_40 rfl (Nat.le_of_ble_eq_true rfl) ?_
      | refine T_aload_n (pc1 := 43) (pc := 42) k_M_deal_42 rfl rfl ?_
      | refine T_aload_nN (pc1 := 43) (pc := 42) k_M_deal_42 rfl rfl ?_
      | refine T_bipush (v := (nI 8)) (pc1 := 45) (pc := 43) k_M_deal_43 rfl (by decide) ?_
      | (refine T_cV (As := [_]) (d1 := 1) (pc1 := 48) (pc := 45) k_M_deal_45 rfl (by decide) (Nat.le_of_ble_eq_true rfl) rfl o_M_drawn l_M_160 rfl (by first | exact ga G (by decide) rfl | assumption) rfl (c_M_drawn G hJN1 (by decide) (by decide) (fun J2 hJ2 hJN2 => ?_)) <;> try dsimp only [psh])
      | refine T_istore (pc1 := 50) (pc := 48) k_M_deal_48 rfl (Nat.le_of_ble_eq_true rfl) ?_
      | refine T_iload (pc1 := 52) (pc := 50) k_M_deal_50 rfl rfl ?_
      | refine T_iconst (v := (nI 1)) (pc1 := 53) (pc := 52) k_M_deal_52 rfl (by decide) ?_
      | with_reducible refine T_iaddN (pc1 := 54) (pc := 53) k_M_deal_53 (by decide) ?_
      | refine T_iadd (pc1 := 54) (pc := 53) k_M_deal_53 rfl ?_
      | refine T_aload_n (pc1 := 55) (pc := 54) k_M_deal_54 rfl rfl ?_
      | refine T_aload_nN (pc1 := 55) (pc := 54) k_M_deal_54 rfl rfl ?_
      | refine T_bipush (v := (nI 7)) (pc1 := 57) (pc := 55) k_M_deal_55 rfl (by decide) ?_
      | (refine T_cV (As := [_]) (d1 := 1) (pc1 := 60) (pc := 57) k_M_deal_57 rfl (by decide) (Nat.le_of_ble_eq_true rfl) rfl o_M_drawn l_M_160 rfl (by first | exact ga G (by decide) rfl | assumption) rfl (c_M_drawn G hJN2 (by decide) (by decide) (fun J3 hJ3 hJN3 => ?_)) <;> try dsimp only [psh])
      | with_reducible refine T_iaddN (pc1 := 61) (pc := 60) k_M_deal_60 (by decide) ?_
      | refine T_iadd (pc1 := 61) (pc := 60) k_M_deal_60 rfl ?_
      | refine T_bipush (v := (nI 8)) (pc1 := 63) (pc := 61) k_M_deal_61 rfl (by decide) ?_
      | with_reducible refine T_iremN (pc1 := 64) (pc := 63) k_M_deal_63 (by decide) (by omega) (by omega) (by omega) ?_
      | refine T_irem (pc1 := 64) (pc := 63) k_M_deal_63 rfl (by first | assumption | decide) ?_
      | refine T_istore (pc1 := 66) (pc := 64) k_M_deal_64 rfl (Nat.le_of_ble_eq_true rfl) ?_
      | refine T_aload_n (pc1 := 67) (pc := 66) k_M_deal_66 rfl rfl ?_
      | refine T_aload_nN (pc1 := 67) (pc := 66) k_M_deal_66 rfl rfl ?_
      | refine T_iload (pc1 := 69) (pc := 67) k_M_deal_67 rfl rfl ?_
      | refine T_iload (pc1 := 71) (pc := 69) k_M_deal_69 rfl rfl ?_
      | refine T_iload (pc1 := 73) (pc := 71) k_M_deal_71 rfl rfl ?_
      | refine T_iconst (v := (nI 1)) (pc1 := 74) (pc := 73) k_M_deal_73 rfl (by decide) ?_
      | refine T_aload_n (pc1 := 75) (pc := 74) k_M_deal_74 rfl rfl ?_
      | refine T_aload_nN (pc1 := 75) (pc := 74) k_M_deal_74 rfl rfl ?_
      | refine T_bipush (v := (nI 40)) (pc1 := 77) (pc := 75) k_M_deal_75 rfl (by decide) ?_
      | (refine T_cV (As := [_]) (d1 := 1) (pc1 := 80) (pc := 77) k_M_deal_77 rfl (by decide) (Nat.le_of_ble_eq_true rfl) rfl o_M_drawn l_M_160 rfl (by first | exact ga G (by decide) rfl | assumption) rfl (c_M_drawn G hJN3 (by decide) (by decide) (fun J4 hJ4 hJN4 => ?_)) <;> try dsimp only [psh])
      | with_reducible refine T_iaddN (pc1 := 81) (pc := 80) k_M_deal_80 (by decide) ?_
      | refine T_iadd (pc1 := 81) (pc := 80) k_M_deal_80 rfl ?_
      | (refine T_cV (As := [_, _, _, _]) (d1 := 1) (pc1 := 84) (pc := 81) k_M_deal_81 rfl (by decide) (Nat.le_of_ble_eq_true rfl) rfl o_M_comes l_M_113 rfl (by first | exact ga G (by decide) rfl | assumption) rfl (c_M_comes (n := n') G hJN4 (by rw [va_up_ne _ _ (by decide), va_up_ne _ _ (by decide), va_up_ne _ _ (by decide), va_up_ne _ _ (by decide)]; exact h5') (by omega) (fun J5 hJ5 hJN5 => ?_)) <;> try dsimp only [psh])
      | refine T_pop (pc1 := 85) (pc := 84) k_M_deal_84 rfl rfl ?_
      | refine T_iincN (b := 1) (pc1 := 88) (pc := 85) k_M_deal_85 rfl rfl (by decide) ?_
      | refine T_iinc (v := (nI 1)) (pc1 := 88) (pc := 85) k_M_deal_85 rfl rfl (by decide) ?_
      | refine T_goto (tgt := 29) (pc := 88) k_M_deal_88 rfl ?_
      | refine T_iload_n (pc1 := 92) (pc := 91) k_M_deal_91 rfl rfl ?_
      | refine T_retI (pc := 92) k_M_deal_92 rfl (by first | rfl | decide | assumption) ?_)
    exact loop (min q (14 - n)) 0 n none none none N I (by omega) (by omega) eqx_rf hN h5 rfl
  · rw [dealM, dealA, if_neg hok, if_neg hok] at kk
    repeat' (first
      | refine T_iload_n (pc1 := 1) (pc := 0) k_M_deal_0 rfl rfl ?_
      | refine T_iconst (v := (nI 1)) (pc1 := 2) (pc := 1) k_M_deal_1 rfl (by decide) ?_
      | refine T_bipush (v := (nI 14)) (pc1 := 4) (pc := 2) k_M_deal_2 rfl (by decide) ?_
      | (refine T_cS (As := [_, _, _]) (d1 := 1) (pc1 := 7) (pc := 4) k_M_deal_4 rfl (by decide) (Nat.le_of_ble_eq_true rfl) rfl o_M_within l_M_95 rfl (c_M_within (fun hw => ?_) (fun hw => ?_)) <;> try dsimp only [psh])
      | (with_reducible refine T_if_neN (tgt := 13) (pc1 := 10) (pc := 7) k_M_deal_7 (by decide) (by decide) (by omega) (fun hc => ?_) (fun hc => ?_) <;> first | (exfalso; omega) | skip)
      | refine T_if_ne_t (tgt := 13) (pc := 7) k_M_deal_7 rfl (by decide) ?_
      | refine T_if_ne_f (tgt := 13) (pc1 := 10) (pc := 7) k_M_deal_7 rfl rfl (by decide) ?_
      | refine T_if_ne (tgt := 13) (pc1 := 10) (pc := 7) k_M_deal_7 rfl rfl (fun hc => ?_) (fun hc => ?_)
      | refine T_ldc (v := (-1000000001)) (pc1 := 12) (pc := 10) k_M_deal_10 rfl c_M_111 ?_
      | refine T_retI (pc := 12) k_M_deal_12 rfl (by first | rfl | decide | assumption) ?_
      | refine T_iload_n (pc1 := 14) (pc := 13) k_M_deal_13 rfl rfl ?_
      | refine T_bipush (v := (nI 14)) (pc1 := 16) (pc := 14) k_M_deal_14 rfl (by decide) ?_
      | refine T_aload_n (pc1 := 17) (pc := 16) k_M_deal_16 rfl rfl ?_
      | refine T_aload_nN (pc1 := 17) (pc := 16) k_M_deal_16 rfl rfl ?_
      | refine T_getR (pc1 := 20) (pc := 17) k_M_deal_17 rfl f_M_9 rfl (by first | exact ga G (by decide) rfl | assumption) (by first | exact gr G (by decide) rfl | assumption) ?_
      | refine T_iconst (v := (nI 5)) (pc1 := 21) (pc := 20) k_M_deal_20 rfl (by decide) ?_
      | refine T_ialdN (pc1 := 22) (pc := 21) k_M_deal_21 rfl (by first | exact ga G (by decide) rfl | assumption) (by omega) (by omega) (by first | assumption | (simp (disch := omega) only [pI_eq, pI_row, pI_col, va_up_self, va_up_ne, ne_eq, not_false_eq_true, hN, h5] <;> rfl) | rfl) ?_
      | refine T_iald (pc1 := 22) (pc := 21) k_M_deal_21 rfl (by first | exact ga G (by decide) rfl | assumption) (by assumption) ?_
      | with_reducible refine T_isubN (pc1 := 23) (pc := 22) k_M_deal_22 (by decide) (by omega) ?_
      | refine T_isub (pc1 := 23) (pc := 22) k_M_deal_22 rfl ?_
      | refine T_mminV (pc1 := 26) (pc := 23) k_M_deal_23 rfl l_M_82 (by decide) (Nat.le_of_ble_eq_true rfl) (by with_reducible rfl) (by with_reducible rfl) (by omega) (by omega) ?_
      | refine T_mmin (pc1 := 26) (pc := 23) k_M_deal_23 rfl l_M_82 (by decide) (Nat.le_of_ble_eq_true rfl) ?_
      | refine T_istore_n (pc1 := 27) (pc := 26) k_M_deal_26 rfl (Nat.le_of_ble_eq_true rfl) ?_
      | refine T_iconst (v := (nI 0)) (pc1 := 28) (pc := 27) k_M_deal_27 rfl (by decide) ?_
      | refine T_istore_n (pc1 := 29) (pc := 28) k_M_deal_28 rfl (Nat.le_of_ble_eq_true rfl) ?_
      | refine T_iload_n (pc1 := 30) (pc := 29) k_M_deal_29 rfl rfl ?_
      | refine T_iload_n (pc1 := 31) (pc := 30) k_M_deal_30 rfl rfl ?_
      | (with_reducible refine T_icmp_geN (tgt := 91) (pc1 := 34) (pc := 31) k_M_deal_31 (by decide) (by decide) (by omega) (by omega) (fun hc => ?_) (fun hc => ?_) <;> first | (exfalso; omega) | skip)
      | refine T_icmp_ge_t (tgt := 91) (pc := 31) k_M_deal_31 rfl (by decide) ?_
      | refine T_icmp_ge_f (tgt := 91) (pc1 := 34) (pc := 31) k_M_deal_31 rfl rfl (by decide) ?_
      | refine T_icmp_ge (tgt := 91) (pc1 := 34) (pc := 31) k_M_deal_31 rfl rfl (fun hc => ?_) (fun hc => ?_)
      | refine T_aload_n (pc1 := 35) (pc := 34) k_M_deal_34 rfl rfl ?_
      | refine T_aload_nN (pc1 := 35) (pc := 34) k_M_deal_34 rfl rfl ?_
      | refine T_bipush (v := (nI 6)) (pc1 := 37) (pc := 35) k_M_deal_35 rfl (by decide) ?_
      | (refine T_cV (As := [_]) (d1 := 1) (pc1 := 40) (pc := 37) k_M_deal_37 rfl (by decide) (Nat.le_of_ble_eq_true rfl) rfl o_M_drawn l_M_160 rfl (by first | exact ga G (by decide) rfl | assumption) rfl (c_M_drawn G hJN (by decide) (by decide) (fun J1 hJ1 hJN1 => ?_)) <;> try dsimp only [psh])
      | refine T_istore (pc1 := 42) (pc := 40) k_M_deal_40 rfl (Nat.le_of_ble_eq_true rfl) ?_
      | refine T_aload_n (pc1 := 43) (pc := 42) k_M_deal_42 rfl rfl ?_
      | refine T_aload_nN (pc1 := 43) (pc := 42) k_M_deal_42 rfl rfl ?_
      | refine T_bipush (v := (nI 8)) (pc1 := 45) (pc := 43) k_M_deal_43 rfl (by decide) ?_
      | (refine T_cV (As := [_]) (d1 := 1) (pc1 := 48) (pc := 45) k_M_deal_45 rfl (by decide) (Nat.le_of_ble_eq_true rfl) rfl o_M_drawn l_M_160 rfl (by first | exact ga G (by decide) rfl | assumption) rfl (c_M_drawn G hJN1 (by decide) (by decide) (fun J2 hJ2 hJN2 => ?_)) <;> try dsimp only [psh])
      | refine T_istore (pc1 := 50) (pc := 48) k_M_deal_48 rfl (Nat.le_of_ble_eq_true rfl) ?_
      | refine T_iload (pc1 := 52) (pc := 50) k_M_deal_50 rfl rfl ?_
      | refine T_iconst (v := (nI 1)) (pc1 := 53) (pc := 52) k_M_deal_52 rfl (by decide) ?_
      | with_reducible refine T_iaddN (pc1 := 54) (pc := 53) k_M_deal_53 (by decide) ?_
      | refine T_iadd (pc1 := 54) (pc := 53) k_M_deal_53 rfl ?_
      | refine T_aload_n (pc1 := 55) (pc := 54) k_M_deal_54 rfl rfl ?_
      | refine T_aload_nN (pc1 := 55) (pc := 54) k_M_deal_54 rfl rfl ?_
      | refine T_bipush (v := (nI 7)) (pc1 := 57) (pc := 55) k_M_deal_55 rfl (by decide) ?_
      | (refine T_cV (As := [_]) (d1 := 1) (pc1 := 60) (pc := 57) k_M_deal_57 rfl (by decide) (Nat.le_of_ble_eq_true rfl) rfl o_M_drawn l_M_160 rfl (by first | exact ga G (by decide) rfl | assumption) rfl (c_M_drawn G hJN2 (by decide) (by decide) (fun J3 hJ3 hJN3 => ?_)) <;> try dsimp only [psh])
      | with_reducible refine T_iaddN (pc1 := 61) (pc := 60) k_M_deal_60 (by decide) ?_
      | refine T_iadd (pc1 := 61) (pc := 60) k_M_deal_60 rfl ?_
      | refine T_bipush (v := (nI 8)) (pc1 := 63) (pc := 61) k_M_deal_61 rfl (by decide) ?_
      | with_reducible refine T_iremN (pc1 := 64) (pc := 63) k_M_deal_63 (by decide) (by omega) (by omega) (by omega) ?_
      | refine T_irem (pc1 := 64) (pc := 63) k_M_deal_63 rfl (by first | assumption | decide) ?_
      | refine T_istore (pc1 := 66) (pc := 64) k_M_deal_64 rfl (Nat.le_of_ble_eq_true rfl) ?_
      | refine T_aload_n (pc1 := 67) (pc := 66) k_M_deal_66 rfl rfl ?_
      | refine T_aload_nN (pc1 := 67) (pc := 66) k_M_deal_66 rfl rfl ?_
      | refine T_iload (pc1 := 69) (pc := 67) k_M_deal_67 rfl rfl ?_
      | refine T_iload (pc1 := 71) (pc := 69) k_M_deal_69 rfl rfl ?_
      | refine T_iload (pc1 := 73) (pc := 71) k_M_deal_71 rfl rfl ?_
      | refine T_iconst (v := (nI 1)) (pc1 := 74) (pc := 73) k_M_deal_73 rfl (by decide) ?_
      | refine T_aload_n (pc1 := 75) (pc := 74) k_M_deal_74 rfl rfl ?_
      | refine T_aload_nN (pc1 := 75) (pc := 74) k_M_deal_74 rfl rfl ?_
      | refine T_bipush (v := (nI 40)) (pc1 := 77) (pc := 75) k_M_deal_75 rfl (by decide) ?_
      | (refine T_cV (As := [_]) (d1 := 1) (pc1 := 80) (pc := 77) k_M_deal_77 rfl (by decide) (Nat.le_of_ble_eq_true rfl) rfl o_M_drawn l_M_160 rfl (by first | exact ga G (by decide) rfl | assumption) rfl (c_M_drawn G hJN3 (by decide) (by decide) (fun J4 hJ4 hJN4 => ?_)) <;> try dsimp only [psh])
      | with_reducible refine T_iaddN (pc1 := 81) (pc := 80) k_M_deal_80 (by decide) ?_
      | refine T_iadd (pc1 := 81) (pc := 80) k_M_deal_80 rfl ?_
      | (refine T_cV (As := [_, _, _, _]) (d1 := 1) (pc1 := 84) (pc := 81) k_M_deal_81 rfl (by decide) (Nat.le_of_ble_eq_true rfl) rfl o_M_comes l_M_113 rfl (by first | exact ga G (by decide) rfl | assumption) rfl (c_M_comes (n := n') G hJN4 (by rw [va_up_ne _ _ (by decide), va_up_ne _ _ (by decide), va_up_ne _ _ (by decide), va_up_ne _ _ (by decide)]; exact h5') (by omega) (fun J5 hJ5 hJN5 => ?_)) <;> try dsimp only [psh])
      | refine T_pop (pc1 := 85) (pc := 84) k_M_deal_84 rfl rfl ?_
      | refine T_iincN (b := 1) (pc1 := 88) (pc := 85) k_M_deal_85 rfl rfl (by decide) ?_
      | refine T_iinc (v := (nI 1)) (pc1 := 88) (pc := 85) k_M_deal_85 rfl rfl (by decide) ?_
      | refine T_goto (tgt := 29) (pc := 88) k_M_deal_88 rfl ?_
      | refine T_iload_n (pc1 := 92) (pc := 91) k_M_deal_91 rfl rfl ?_
      | refine T_retI (pc := 92) k_M_deal_92 rfl (by first | rfl | decide | assumption) ?_)
    all_goals first | exact kk _ _ eqx_rf hN rfl | (exfalso; apply hok; constructor <;> omega)
end M6
