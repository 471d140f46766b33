/-! The model: wrong, fine, the tape, sheets, slots. -/
section PU9
def wrS (N : Row) (n tn : Nat) (v : Row) : Nat → Int32
  | 0 => nI 0
  | k + 1 => wrS N n tn v k + (if v k = cNONE then nI 0 else jabs (v k - (if k < n then nI (tkk N tn k) else nI 0)))
def shv (Pl : Row) (s : Nat) : Row := fun k => Pl (24 * s + k)
/-- the sheets are in order -/
def okS (So Si : Row) : Prop := ∀ s, s < 4 → (So s = -1 ∧ Si s = nI 0) ∨ ((So s = nI 0 ∨ So s = nI 1) ∧ ∃ z : Nat, z ≤ 24 ∧ Si s = nI z)
def wrongA (N : Row) (n tn : Nat) (So Si Pl : Row) (s : Int32) : Int32 := if rg 4 s then (if So s.toNatClampNeg = -1 then cNOTHING else wrS N n tn (shv Pl s.toNatClampNeg) (Si s.toNatClampNeg).toNatClampNeg) else cBAD
def fineA (N : Row) (tn : Nat) : Int32 := match txt N 2 tn with
  | none => N 2
  | some t => evl N t (N (158 + 100 * t)).toNatClampNeg (nm3 (N 2) (N 1) (nI 0))
def byt (v : Int32) (k : Nat) : Nat := v.toBitVec.toNat / 2 ^ k % 256
theorem i32n (x : Int32) : (x.toBitVec.toNat : Int) = if x.toInt < 0 then x.toInt + 4294967296 else x.toInt := by
  have h : x.toInt = x.toBitVec.toInt := rfl
  rw [h, BitVec.toInt_eq_toNat_cond]
  have := x.toBitVec.isLt
  split <;> split <;> omega
theorem bytS (v s : Int32) (k : Nat) (hs : (s.toBitVec.smod 32).toNat = k) (hk : k = 0 ∨ k = 8 ∨ k = 16 ∨ k = 24) : (v >>> s) &&& nI 255 = nI (byt v k) := by
  rw [pk_and _ 8 (by decide)]
  congr 1
  have h := pk_shr v s k hs
  rw [Int.shiftRight_eq_div_pow] at h
  have h1 := i32n v
  have h2 := i32n (v >>> s)
  unfold byt
  rw [h] at h2
  generalize (v >>> s).toBitVec.toNat = A at *
  generalize v.toBitVec.toNat = B at *
  generalize v.toInt = C at *
  obtain rfl | rfl | rfl | rfl := hk
  all_goals (split at h1 <;> split at h2 <;> omega)
theorem bytU (v s : Int32) (k : Nat) (hs : ((s.toUInt32 &&& Int32.toUInt32 31).toBitVec % 32).toNat = k) : (v.toUInt32 >>> (s.toUInt32 &&& Int32.toUInt32 31)).toInt32 &&& nI 255 = nI (byt v k) := by
  rw [pk_and _ 8 (by decide), pk_ushr v s k hs]
  rfl
def lay4 (T : Row) (z : Nat) (v : Int32) : Row := va_up (va_up (va_up (va_up T z (nI (byt v 24))) (z + 1) (nI (byt v 16))) (z + 2) (nI (byt v 8))) (z + 3) (nI (byt v 0))
theorem up_eta {f : Row} {k : Nat} {v : Int32} (h : f k = v) : va_up f k v = f := by
  funext x
  by_cases hx : x = k
  · subst hx; rw [va_up_self, h]
  · rw [va_up_ne _ _ hx]
def feedA (z : Nat) : Int32 := if z + 12 ≤ 96 then nI (z + 12) else cFULL
def feedZ (z : Nat) : Nat := if z + 12 ≤ 96 then z + 12 else z
def feedT (T : Row) (z : Nat) (a b c : Int32) : Row := if z + 12 ≤ 96 then lay4 (lay4 (lay4 T z a) (z + 4) b) (z + 8) c else T
def trimA (z : Nat) (v : Int32) : Int32 := if bt 0 z v then v else cBAD
def trimZ (z : Nat) (v : Int32) : Nat := if bt 0 z v then v.toNatClampNeg else z
def textToldA (N : Row) (tn : Nat) (t w : Int32) : Int32 := if rg tn t ∧ rg 2 w then N (156 + 100 * t.toNatClampNeg + w.toNatClampNeg) else cBAD
def whyA (N : Row) (tn : Nat) (k : Int32) : Int32 := if rg 3 k then oNo (txt N k.toNatClampNeg tn) else cBAD
abbrev okSheet (s so n : Int32) : Prop := rg 4 s ∧ bt (-1) 1 so ∧ (so.toInt < 0 ∨ bt 0 24 n)
def sheetV (so n : Int32) : Int32 := if so.toInt < 0 then nI 0 else n
def sheetA (s so n : Int32) : Int32 := if okSheet s so n then sheetV so n else if rg 4 s ∧ bt (-1) 1 so ∧ ¬ so.toInt < 0 ∧ n.toInt < 0 then cSIZE else cBAD
def zer (Pl : Row) (a k : Nat) : Row := fun j => if a ≤ j ∧ j < a + k then nI 0 else Pl j
theorem zer_s (Pl : Row) (a k : Nat) : va_up (zer Pl a k) (a + k) (nI 0) = zer Pl a (k + 1) := by
  funext j
  unfold zer
  by_cases h : j = a + k
  · subst h; rw [va_up_self, if_pos ⟨by omega, by omega⟩]
  · rw [va_up_ne _ _ h]
    by_cases h2 : a ≤ j ∧ j < a + k
    · rw [if_pos h2, if_pos ⟨by omega, by omega⟩]
    · rw [if_neg h2, if_neg (by omega)]
theorem zer_0 (Pl : Row) (a : Nat) : zer Pl a 0 = Pl := funext fun j => if_neg (by omega)
end PU9
section M13
variable {g : Geo} {I : IM} {K : Option Value → Geo → IM → Prop}
set_option maxHeartbeats 4000000 in
theorem c_M_wrong {N So Si Pl : Row} {n tn : Nat} {s : Int32} (G : GeoOK g) (hN : I 102 = N) (ok : okL N n tn) (hSo : I 114 = So) (hSi : I 115 = Si) (hPl : I 116 = Pl) (oks : okS So Si) (kk : ∀ J r, eqx [112, 113] I J → r = wrongA N n tn So Si Pl s → K (some (.int r)) g J) : Cl 5 M_M_wrong [.ref 101, .int s] g I K := by
  show Rl 5 M_M_wrong 0 [some (.ref 101), some (.int s), none, none, none] [] g I K
  obtain ⟨hn, h14, -⟩ := id ok
  by_cases hs : rg 4 s
  · rw [wrongA, if_pos hs] at kk
    obtain ⟨j, hj, rfl⟩ := rg_of hs (by omega)
    rw [nI_clamp (by omega)] at kk
    rcases oks j hj with ⟨h1, h2⟩ | ⟨h1, z, hz, h2⟩
    · rw [if_pos h1] at kk
      repeat' (first
        | refine T_iload_n (pc1 := 1) (pc := 0) k_M_wrong_0 rfl rfl ?_
        | (refine T_cS (As := [_]) (d1 := 2) (pc1 := 4) (pc := 1) k_M_wrong_1 rfl (by decide) (Nat.le_of_ble_eq_true rfl) rfl o_M_isSheet l_M_193 rfl (c_M_isSheet (fun hw => ?_) (fun hw => ?_)) <;> try dsimp only [psh])
        | (with_reducible refine T_if_neN (tgt := 10) (pc1 := 7) (pc := 4) k_M_wrong_4 (by decide) (by decide) (by omega) (fun hc => ?_) (fun hc => ?_) <;> first | (exfalso; omega) | skip)
        | refine T_if_ne_t (tgt := 10) (pc := 4) k_M_wrong_4 rfl (by decide) ?_
        | refine T_if_ne_f (tgt := 10) (pc1 := 7) (pc := 4) k_M_wrong_4 rfl rfl (by decide) ?_
        | refine T_if_ne (tgt := 10) (pc1 := 7) (pc := 4) k_M_wrong_4 rfl rfl (fun hc => ?_) (fun hc => ?_)
        | refine T_ldc (v := (-1000000001)) (pc1 := 9) (pc := 7) k_M_wrong_7 rfl c_M_111 ?_
        | refine T_retI (pc := 9) k_M_wrong_9 rfl (by first | rfl | decide | assumption) ?_
        | refine T_aload_n (pc1 := 11) (pc := 10) k_M_wrong_10 rfl rfl ?_
        | refine T_aload_nN (pc1 := 11) (pc := 10) k_M_wrong_10 rfl rfl ?_
        | refine T_getR (pc1 := 14) (pc := 11) k_M_wrong_11 rfl f_M_61 rfl (by first | exact ga G (by decide) rfl | assumption) (by first | exact gr G (by decide) rfl | assumption) ?_
        | refine T_iload_n (pc1 := 15) (pc := 14) k_M_wrong_14 rfl rfl ?_
        | refine T_ialdN (pc1 := 16) (pc := 15) k_M_wrong_15 rfl (by first | exact ga G (by decide) rfl | assumption) (by omega) (by omega) (by first | assumption | (simp (disch := omega) only [pI_eq, pI_row, pI_col, va_up_self, va_up_ne, ne_eq, not_false_eq_true, hSo, h1] <;> rfl) | rfl) ?_
        | refine T_iald (pc1 := 16) (pc := 15) k_M_wrong_15 rfl (by first | exact ga G (by decide) rfl | assumption) (by assumption) ?_
        | (with_reducible refine T_if_geN (tgt := 22) (pc1 := 19) (pc := 16) k_M_wrong_16 (by decide) (by decide) (by omega) ?_ <;> first | (exfalso; omega) | skip)
        | refine T_if_ge_t (tgt := 22) (pc := 16) k_M_wrong_16 rfl (by decide) ?_
        | refine T_if_ge_f (tgt := 22) (pc1 := 19) (pc := 16) k_M_wrong_16 rfl rfl (by decide) ?_
        | refine T_if_ge (tgt := 22) (pc1 := 19) (pc := 16) k_M_wrong_16 rfl rfl (fun hc => ?_) (fun hc => ?_)
        | refine T_ldc (v := (-1000000011)) (pc1 := 21) (pc := 19) k_M_wrong_19 rfl c_M_196 ?_
        | refine T_retI (pc := 21) k_M_wrong_21 rfl (by first | rfl | decide | assumption) ?_
        | refine T_iconst (v := (nI 0)) (pc1 := 23) (pc := 22) k_M_wrong_22 rfl (by decide) ?_
        | refine T_istore_n (pc1 := 24) (pc := 23) k_M_wrong_23 rfl (Nat.le_of_ble_eq_true rfl) ?_
        | refine T_iconst (v := (nI 0)) (pc1 := 25) (pc := 24) k_M_wrong_24 rfl (by decide) ?_
        | refine T_istore_n (pc1 := 26) (pc := 25) k_M_wrong_25 rfl (Nat.le_of_ble_eq_true rfl) ?_
        | refine T_iload_n (pc1 := 27) (pc := 26) k_M_wrong_26 rfl rfl ?_
        | refine T_aload_n (pc1 := 28) (pc := 27) k_M_wrong_27 rfl rfl ?_
        | refine T_aload_nN (pc1 := 28) (pc := 27) k_M_wrong_27 rfl rfl ?_
        | refine T_getR (pc1 := 31) (pc := 28) k_M_wrong_28 rfl f_M_64 rfl (by first | exact ga G (by decide) rfl | assumption) (by first | exact gr G (by decide) rfl | assumption) ?_
        | refine T_iload_n (pc1 := 32) (pc := 31) k_M_wrong_31 rfl rfl ?_
        | refine T_ialdN (pc1 := 33) (pc := 32) k_M_wrong_32 rfl (by first | exact ga G (by decide) rfl | assumption) (by omega) (by omega) (by first | assumption | (simp (disch := omega) only [pI_eq, pI_row, pI_col, va_up_self, va_up_ne, ne_eq, not_false_eq_true, hSo, h1] <;> rfl) | rfl) ?_
        | refine T_iald (pc1 := 33) (pc := 32) k_M_wrong_32 rfl (by first | exact ga G (by decide) rfl | assumption) (by assumption) ?_
        | (with_reducible refine T_icmp_geN (tgt := 92) (pc1 := 36) (pc := 33) k_M_wrong_33 (by decide) (by decide) (by omega) (by omega) (fun hc => ?_) (fun hc => ?_) <;> first | (exfalso; omega) | skip)
        | refine T_icmp_ge_t (tgt := 92) (pc := 33) k_M_wrong_33 rfl (by decide) ?_
        | refine T_icmp_ge_f (tgt := 92) (pc1 := 36) (pc := 33) k_M_wrong_33 rfl rfl (by decide) ?_
        | refine T_icmp_ge (tgt := 92) (pc1 := 36) (pc := 33) k_M_wrong_33 rfl rfl (fun hc => ?_) (fun hc => ?_)
        | refine T_aload_n (pc1 := 37) (pc := 36) k_M_wrong_36 rfl rfl ?_
        | refine T_aload_nN (pc1 := 37) (pc := 36) k_M_wrong_36 rfl rfl ?_
        | refine T_getR (pc1 := 40) (pc := 37) k_M_wrong_37 rfl f_M_67 rfl (by first | exact ga G (by decide) rfl | assumption) (by first | exact gr G (by decide) rfl | assumption) ?_
        | refine T_bipush (v := (nI 24)) (pc1 := 42) (pc := 40) k_M_wrong_40 rfl (by decide) ?_
        | refine T_iload_n (pc1 := 43) (pc := 42) k_M_wrong_42 rfl rfl ?_
        | with_reducible refine T_imulN (pc1 := 44) (pc := 43) k_M_wrong_43 (by decide) ?_
        | refine T_imul (pc1 := 44) (pc := 43) k_M_wrong_43 rfl ?_
        | refine T_iload_n (pc1 := 45) (pc := 44) k_M_wrong_44 rfl rfl ?_
        | with_reducible refine T_iaddN (pc1 := 46) (pc := 45) k_M_wrong_45 (by decide) ?_
        | refine T_iadd (pc1 := 46) (pc := 45) k_M_wrong_45 rfl ?_
        | refine T_ialdN (pc1 := 47) (pc := 46) k_M_wrong_46 rfl (by first | exact ga G (by decide) rfl | assumption) (by omega) (by omega) (by first | assumption | (simp (disch := omega) only [pI_eq, pI_row, pI_col, va_up_self, va_up_ne, ne_eq, not_false_eq_true, hSo, h1] <;> rfl) | rfl) ?_
        | refine T_iald (pc1 := 47) (pc := 46) k_M_wrong_46 rfl (by first | exact ga G (by decide) rfl | assumption) (by assumption) ?_
        | refine T_istore (pc1 := 49) (pc := 47) k_M_wrong_47 rfl (Nat.le_of_ble_eq_true rfl) ?_
        | refine T_iload_n (pc1 := 50) (pc := 49) k_M_wrong_49 rfl rfl ?_
        | refine T_iload (pc1 := 52) (pc := 50) k_M_wrong_50 rfl rfl ?_
        | refine T_ldc (v := (-1000000005)) (pc1 := 54) (pc := 52) k_M_wrong_52 rfl c_M_103 ?_
        | (with_reducible refine T_icmp_neN (tgt := 61) (pc1 := 57) (pc := 54) k_M_wrong_54 (by decide) (by decide) (by omega) (by omega) (fun hc => ?_) (fun hc => ?_) <;> first | (exfalso; omega) | skip)
        | refine T_icmp_ne_t (tgt := 61) (pc := 54) k_M_wrong_54 rfl (by decide) ?_
        | refine T_icmp_ne_f (tgt := 61) (pc1 := 57) (pc := 54) k_M_wrong_54 rfl rfl (by decide) ?_
        | refine T_icmp_ne (tgt := 61) (pc1 := 57) (pc := 54) k_M_wrong_54 rfl rfl (fun hc => ?_) (fun hc => ?_)
        | refine T_iconst (v := (nI 0)) (pc1 := 58) (pc := 57) k_M_wrong_57 rfl (by decide) ?_
        | refine T_goto (tgt := 84) (pc := 58) k_M_wrong_58 rfl ?_
        | refine T_iload (pc1 := 63) (pc := 61) k_M_wrong_61 rfl rfl ?_
        | refine T_aload_n (pc1 := 64) (pc := 63) k_M_wrong_63 rfl rfl ?_
        | refine T_aload_nN (pc1 := 64) (pc := 63) k_M_wrong_63 rfl rfl ?_
        | refine T_iload_n (pc1 := 65) (pc := 64) k_M_wrong_64 rfl rfl ?_
        | (refine T_cV (As := [_]) (d1 := 2) (pc1 := 68) (pc := 65) k_M_wrong_65 rfl (by decide) (Nat.le_of_ble_eq_true rfl) rfl o_M_isBit l_M_140 rfl (by first | exact ga G (by decide) rfl | assumption) rfl (c_M_isBit G hN hn h14 (fun hw => ?_) (fun hw => ?_)) <;> try dsimp only [psh])
        | (with_reducible refine T_if_eqN (tgt := 79) (pc1 := 71) (pc := 68) k_M_wrong_68 (by decide) (by decide) (by omega) (fun hc => ?_) (fun hc => ?_) <;> first | (exfalso; omega) | skip)
        | refine T_if_eq_t (tgt := 79) (pc := 68) k_M_wrong_68 rfl (by decide) ?_
        | refine T_if_eq_f (tgt := 79) (pc1 := 71) (pc := 68) k_M_wrong_68 rfl rfl (by decide) ?_
        | refine T_if_eq (tgt := 79) (pc1 := 71) (pc := 68) k_M_wrong_68 rfl rfl (fun hc => ?_) (fun hc => ?_)
        | refine T_aload_n (pc1 := 72) (pc := 71) k_M_wrong_71 rfl rfl ?_
        | refine T_aload_nN (pc1 := 72) (pc := 71) k_M_wrong_71 rfl rfl ?_
        | refine T_iload_n (pc1 := 73) (pc := 72) k_M_wrong_72 rfl rfl ?_
        | (refine T_cV (As := [_]) (d1 := 4) (pc1 := 76) (pc := 73) k_M_wrong_73 rfl (by decide) (Nat.le_of_ble_eq_true rfl) rfl o_M_takes l_M_143 rfl (by first | exact ga G (by decide) rfl | assumption) rfl (c_M_takes G (by assumption) (by assumption) (by assumption) (fun J hJ => ?_)) <;> try dsimp only [psh])
        | refine T_goto (tgt := 80) (pc := 76) k_M_wrong_76 rfl ?_
        | refine T_iconst (v := (nI 0)) (pc1 := 80) (pc := 79) k_M_wrong_79 rfl (by decide) ?_
        | with_reducible refine T_isubN (pc1 := 81) (pc := 80) k_M_wrong_80 (by decide) (by omega) ?_
        | refine T_isub (pc1 := 81) (pc := 80) k_M_wrong_80 rfl ?_
        | refine T_mabs (pc1 := 84) (pc := 81) k_M_wrong_81 rfl l_M_197 (by decide) (Nat.le_of_ble_eq_true rfl) ?_
        | with_reducible refine T_iaddN (pc1 := 85) (pc := 84) k_M_wrong_84 (by decide) ?_
        | refine T_iadd (pc1 := 85) (pc := 84) k_M_wrong_84 rfl ?_
        | refine T_istore_n (pc1 := 86) (pc := 85) k_M_wrong_85 rfl (Nat.le_of_ble_eq_true rfl) ?_
        | refine T_iincN (b := 1) (pc1 := 89) (pc := 86) k_M_wrong_86 rfl rfl (by decide) ?_
        | refine T_iinc (v := (nI 1)) (pc1 := 89) (pc := 86) k_M_wrong_86 rfl rfl (by decide) ?_
        | refine T_goto (tgt := 26) (pc := 89) k_M_wrong_89 rfl ?_
        | refine T_iload_n (pc1 := 93) (pc := 92) k_M_wrong_92 rfl rfl ?_
        | refine T_retI (pc := 93) k_M_wrong_93 rfl (by first | rfl | decide | assumption) ?_)
      all_goals first | exact kk _ _ eqx_rf rfl | (exfalso; exact hw hs)
    · have hne : ¬ So j = -1 := by rcases h1 with h | h <;> rw [h] <;> decide
      rw [if_neg hne, h2, nI_clamp (by omega)] at kk
      have loop : ∀ q k o4 (J : IM), k + q = z → eqx [112, 113] I J → Rl 5 M_M_wrong 26 [some (.ref 101), some (.int (nI j)), some (.int (wrS N n tn (shv Pl j) k)), some (.int (nI k)), o4] [] g J K := by
        intro q
        induction q with
        | zero =>
          intro k o4 J hk hJ
          have hk : k = z := by omega
          subst hk
          have e2 : J 115 j = nI k := by rw [hJ 115 (by decide), hSi]; exact h2
          repeat' (first
            | refine T_iload_n (pc1 := 1) (pc := 0) k_M_wrong_0 rfl rfl ?_
            | (refine T_cS (As := [_]) (d1 := 2) (pc1 := 4) (pc := 1) k_M_wrong_1 rfl (by decide) (Nat.le_of_ble_eq_true rfl) rfl o_M_isSheet l_M_193 rfl (c_M_isSheet (fun hw => ?_) (fun hw => ?_)) <;> try dsimp only [psh])
            | (with_reducible refine T_if_neN (tgt := 10) (pc1 := 7) (pc := 4) k_M_wrong_4 (by decide) (by decide) (by omega) (fun hc => ?_) (fun hc => ?_) <;> first | (exfalso; omega) | skip)
            | refine T_if_ne_t (tgt := 10) (pc := 4) k_M_wrong_4 rfl (by decide) ?_
            | refine T_if_ne_f (tgt := 10) (pc1 := 7) (pc := 4) k_M_wrong_4 rfl rfl (by decide) ?_
            | refine T_if_ne (tgt := 10) (pc1 := 7) (pc := 4) k_M_wrong_4 rfl rfl (fun hc => ?_) (fun hc => ?_)
            | refine T_ldc (v := (-1000000001)) (pc1 := 9) (pc := 7) k_M_wrong_7 rfl c_M_111 ?_
            | refine T_retI (pc := 9) k_M_wrong_9 rfl (by first | rfl | decide | assumption) ?_
            | refine T_aload_n (pc1 := 11) (pc := 10) k_M_wrong_10 rfl rfl ?_
            | refine T_aload_nN (pc1 := 11) (pc := 10) k_M_wrong_10 rfl rfl ?_
            | refine T_getR (pc1 := 14) (pc := 11) k_M_wrong_11 rfl f_M_61 rfl (by first | exact ga G (by decide) rfl | assumption) (by first | exact gr G (by decide) rfl | assumption) ?_
            | refine T_iload_n (pc1 := 15) (pc := 14) k_M_wrong_14 rfl rfl ?_
            | refine T_ialdN (pc1 := 16) (pc := 15) k_M_wrong_15 rfl (by first | exact ga G (by decide) rfl | assumption) (by omega) (by omega) (by first | assumption | (simp (disch := omega) only [pI_eq, pI_row, pI_col, va_up_self, va_up_ne, ne_eq, not_false_eq_true, hSo, h1] <;> rfl) | rfl) ?_
            | refine T_iald (pc1 := 16) (pc := 15) k_M_wrong_15 rfl (by first | exact ga G (by decide) rfl | assumption) (by assumption) ?_
            | (with_reducible refine T_if_geN (tgt := 22) (pc1 := 19) (pc := 16) k_M_wrong_16 (by decide) (by decide) (by omega) ?_ <;> first | (exfalso; omega) | skip)
            | refine T_if_ge_t (tgt := 22) (pc := 16) k_M_wrong_16 rfl (by decide) ?_
            | refine T_if_ge_f (tgt := 22) (pc1 := 19) (pc := 16) k_M_wrong_16 rfl rfl (by decide) ?_
            | refine T_if_ge (tgt := 22) (pc1 := 19) (pc := 16) k_M_wrong_16 rfl rfl (fun hc => ?_) (fun hc => ?_)
            | refine T_ldc (v := (-1000000011)) (pc1 := 21) (pc := 19) k_M_wrong_19 rfl c_M_196 ?_
            | refine T_retI (pc := 21) k_M_wrong_21 rfl (by first | rfl | decide | assumption) ?_
            | refine T_iconst (v := (nI 0)) (pc1 := 23) (pc := 22) k_M_wrong_22 rfl (by decide) ?_
            | refine T_istore_n (pc1 := 24) (pc := 23) k_M_wrong_23 rfl (Nat.le_of_ble_eq_true rfl) ?_
            | refine T_iconst (v := (nI 0)) (pc1 := 25) (pc := 24) k_M_wrong_24 rfl (by decide) ?_
            | refine T_istore_n (pc1 := 26) (pc := 25) k_M_wrong_25 rfl (Nat.le_of_ble_eq_true rfl) ?_
            | refine T_iload_n (pc1 := 27) (pc := 26) k_M_wrong_26 rfl rfl ?_
            | refine T_aload_n (pc1 := 28) (pc := 27) k_M_wrong_27 rfl rfl ?_
            | refine T_aload_nN (pc1 := 28) (pc := 27) k_M_wrong_27 rfl rfl ?_
            | refine T_getR (pc1 := 31) (pc := 28) k_M_wrong_28 rfl f_M_64 rfl (by first | exact ga G (by decide) rfl | assumption) (by first | exact gr G (by decide) rfl | assumption) ?_
            | refine T_iload_n (pc1 := 32) (pc := 31) k_M_wrong_31 rfl rfl ?_
            | refine T_ialdN (pc1 := 33) (pc := 32) k_M_wrong_32 rfl (by first | exact ga G (by decide) rfl | assumption) (by omega) (by omega) (by first | assumption | (simp (disch := omega) only [pI_eq, pI_row, pI_col, va_up_self, va_up_ne, ne_eq, not_false_eq_true, hSo, h1] <;> rfl) | rfl) ?_
            | refine T_iald (pc1 := 33) (pc := 32) k_M_wrong_32 rfl (by first | exact ga G (by decide) rfl | assumption) (by assumption) ?_
            | (with_reducible refine T_icmp_geN (tgt := 92) (pc1 := 36) (pc := 33) k_M_wrong_33 (by decide) (by decide) (by omega) (by omega) (fun hc => ?_) (fun hc => ?_) <;> first | (exfalso; omega) | skip)
            | refine T_icmp_ge_t (tgt := 92) (pc := 33) k_M_wrong_33 rfl (by decide) ?_
            | refine T_icmp_ge_f (tgt := 92) (pc1 := 36) (pc := 33) k_M_wrong_33 rfl rfl (by decide) ?_
            | refine T_icmp_ge (tgt := 92) (pc1 := 36) (pc := 33) k_M_wrong_33 rfl rfl (fun hc => ?_) (fun hc => ?_)
            | refine T_aload_n (pc1 := 37) (pc := 36) k_M_wrong_36 rfl rfl ?_
            | refine T_aload_nN (pc1 := 37) (pc := 36) k_M_wrong_36 rfl rfl ?_
            | refine T_getR (pc1 := 40) (pc := 37) k_M_wrong_37 rfl f_M_67 rfl (by first | exact ga G (by decide) rfl | assumption) (by first | exact gr G (by decide) rfl | assumption) ?_
            | refine T_bipush (v := (nI 24)) (pc1 := 42) (pc := 40) k_M_wrong_40 rfl (by decide) ?_
            | refine T_iload_n (pc1 := 43) (pc := 42) k_M_wrong_42 rfl rfl ?_
            | with_reducible refine T_imulN (pc1 := 44) (pc := 43) k_M_wrong_43 (by decide) ?_
            | refine T_imul (pc1 := 44) (pc := 43) k_M_wrong_43 rfl ?_
            | refine T_iload_n (pc1 := 45) (pc := 44) k_M_wrong_44 rfl rfl ?_
            | with_reducible refine T_iaddN (pc1 := 46) (pc := 45) k_M_wrong_45 (by decide) ?_
            | refine T_iadd (pc1 := 46) (pc := 45) k_M_wrong_45 rfl ?_
            | refine T_ialdN (pc1 := 47) (pc := 46) k_M_wrong_46 rfl (by first | exact ga G (by decide) rfl | assumption) (by omega) (by omega) (by first | assumption | (simp (disch := omega) only [pI_eq, pI_row, pI_col, va_up_self, va_up_ne, ne_eq, not_false_eq_true, hSo, h1] <;> rfl) | rfl) ?_
            | refine T_iald (pc1 := 47) (pc := 46) k_M_wrong_46 rfl (by first | exact ga G (by decide) rfl | assumption) (by assumption) ?_
            | refine T_istore (pc1 := 49) (pc := 47) k_M_wrong_47 rfl (Nat.le_of_ble_eq_true rfl) ?_
            | refine T_iload_n (pc1 := 50) (pc := 49) k_M_wrong_49 rfl rfl ?_
            | refine T_iload (pc1 := 52) (pc := 50) k_M_wrong_50 rfl rfl ?_
            | refine T_ldc (v := (-1000000005)) (pc1 := 54) (pc := 52) k_M_wrong_52 rfl c_M_103 ?_
            | (with_reducible refine T_icmp_neN (tgt := 61) (pc1 := 57) (pc := 54) k_M_wrong_54 (by decide) (by decide) (by omega) (by omega) (fun hc => ?_) (fun hc => ?_) <;> first | (exfalso; omega) | skip)
            | refine T_icmp_ne_t (tgt := 61) (pc := 54) k_M_wrong_54 rfl (by decide) ?_
            | refine T_icmp_ne_f (tgt := 61) (pc1 := 57) (pc := 54) k_M_wrong_54 rfl rfl (by decide) ?_
            | refine T_icmp_ne (tgt := 61) (pc1 := 57) (pc := 54) k_M_wrong_54 rfl rfl (fun hc => ?_) (fun hc => ?_)
            | refine T_iconst (v := (nI 0)) (pc1 := 58) (pc := 57) k_M_wrong_57 rfl (by decide) ?_
            | refine T_goto (tgt := 84) (pc := 58) k_M_wrong_58 rfl ?_
            | refine T_iload (pc1 := 63) (pc := 61) k_M_wrong_61 rfl rfl ?_
            | refine T_aload_n (pc1 := 64) (pc := 63) k_M_wrong_63 rfl rfl ?_
            | refine T_aload_nN (pc1 := 64) (pc := 63) k_M_wrong_63 rfl rfl ?_
            | refine T_iload_n (pc1 := 65) (pc := 64) k_M_wrong_64 rfl rfl ?_
            | (refine T_cV (As := [_]) (d1 := 2) (pc1 := 68) (pc := 65) k_M_wrong_65 rfl (by decide) (Nat.le_of_ble_eq_true rfl) rfl o_M_isBit l_M_140 rfl (by first | exact ga G (by decide) rfl | assumption) rfl (c_M_isBit G hN hn h14 (fun hw => ?_) (fun hw => ?_)) <;> try dsimp only [psh])
            | (with_reducible refine T_if_eqN (tgt := 79) (pc1 := 71) (pc := 68) k_M_wrong_68 (by decide) (by decide) (by omega) (fun hc => ?_) (fun hc => ?_) <;> first | (exfalso; omega) | skip)
            | refine T_if_eq_t (tgt := 79) (pc := 68) k_M_wrong_68 rfl (by decide) ?_
            | refine T_if_eq_f (tgt := 79) (pc1 := 71) (pc := 68) k_M_wrong_68 rfl rfl (by decide) ?_
            | refine T_if_eq (tgt := 79) (pc1 := 71) (pc := 68) k_M_wrong_68 rfl rfl (fun hc => ?_) (fun hc => ?_)
            | refine T_aload_n (pc1 := 72) (pc := 71) k_M_wrong_71 rfl rfl ?_
            | refine T_aload_nN (pc1 := 72) (pc := 71) k_M_wrong_71 rfl rfl ?_
            | refine T_iload_n (pc1 := 73) (pc := 72) k_M_wrong_72 rfl rfl ?_
            | (refine T_cV (As := [_]) (d1 := 4) (pc1 := 76) (pc := 73) k_M_wrong_73 rfl (by decide) (Nat.le_of_ble_eq_true rfl) rfl o_M_takes l_M_143 rfl (by first | exact ga G (by decide) rfl | assumption) rfl (c_M_takes G (by assumption) (by assumption) (by assumption) (fun J hJ => ?_)) <;> try dsimp only [psh])
            | refine T_goto (tgt := 80) (pc := 76) k_M_wrong_76 rfl ?_
            | refine T_iconst (v := (nI 0)) (pc1 := 80) (pc := 79) k_M_wrong_79 rfl (by decide) ?_
            | with_reducible refine T_isubN (pc1 := 81) (pc := 80) k_M_wrong_80 (by decide) (by omega) ?_
            | refine T_isub (pc1 := 81) (pc := 80) k_M_wrong_80 rfl ?_
            | refine T_mabs (pc1 := 84) (pc := 81) k_M_wrong_81 rfl l_M_197 (by decide) (Nat.le_of_ble_eq_true rfl) ?_
            | with_reducible refine T_iaddN (pc1 := 85) (pc := 84) k_M_wrong_84 (by decide) ?_
            | refine T_iadd (pc1 := 85) (pc := 84) k_M_wrong_84 rfl ?_
            | refine T_istore_n (pc1 := 86) (pc := 85) k_M_wrong_85 rfl (Nat.le_of_ble_eq_true rfl) ?_
            | refine T_iincN (b := 1) (pc1 := 89) (pc := 86) k_M_wrong_86 rfl rfl (by decide) ?_
            | refine T_iinc (v := (nI 1)) (pc1 := 89) (pc := 86) k_M_wrong_86 rfl rfl (by decide) ?_
            | refine T_goto (tgt := 26) (pc := 89) k_M_wrong_89 rfl ?_
            | refine T_iload_n (pc1 := 93) (pc := 92) k_M_wrong_92 rfl rfl ?_
            | refine T_retI (pc := 93) k_M_wrong_93 rfl (by first | rfl | decide | assumption) ?_)
          exact kk J _ hJ rfl
        | succ q ih =>
          intro k o4 J hk hJ
          have e2 : J 115 j = nI z := by rw [hJ 115 (by decide), hSi]; exact h2
          have e3 : J 116 (24 * j + k) = shv Pl j k := by rw [hJ 116 (by decide), hPl]; rfl
          have hJN := (hJ 102 (by decide)).trans hN
          have ih := ih (k + 1)
          rw [wrS] at ih
          generalize wrS N n tn (shv Pl j) k = A at *
          generalize shv Pl j k = v at *
          have ek := nI_toInt (n := k) (by omega)
          refine T_iload_n (pc1 := 27) (pc := 26) k_M_wrong_26 rfl rfl ?_
          repeat' (first
            | refine T_iload_n (pc1 := 1) (pc := 0) k_M_wrong_0 rfl rfl ?_
            | (refine T_cS (As := [_]) (d1 := 2) (pc1 := 4) (pc := 1) k_M_wrong_1 rfl (by decide) (Nat.le_of_ble_eq_true rfl) rfl o_M_isSheet l_M_193 rfl (c_M_isSheet (fun hw => ?_) (fun hw => ?_)) <;> try dsimp only [psh])
            | (with_reducible refine T_if_neN (tgt := 10) (pc1 := 7) (pc := 4) k_M_wrong_4 (by decide) (by decide) (by omega) (fun hc => ?_) (fun hc => ?_) <;> first | (exfalso; omega) | skip)
            | refine T_if_ne_t (tgt := 10) (pc := 4) k_M_wrong_4 rfl (by decide) ?_
            | refine T_if_ne_f (tgt := 10) (pc1 := 7) (pc := 4) k_M_wrong_4 rfl rfl (by decide) ?_
            | refine T_if_ne (tgt := 10) (pc1 := 7) (pc := 4) k_M_wrong_4 rfl rfl (fun hc => ?_) (fun hc => ?_)
            | refine T_ldc (v := (-1000000001)) (pc1 := 9) (pc := 7) k_M_wrong_7 rfl c_M_111 ?_
            | refine T_retI (pc := 9) k_M_wrong_9 rfl (by first | rfl | decide | assumption) ?_
            | refine T_aload_n (pc1 := 11) (pc := 10) k_M_wrong_10 rfl rfl ?_
            | refine T_aload_nN (pc1 := 11) (pc := 10) k_M_wrong_10 rfl rfl ?_
            | refine T_getR (pc1 := 14) (pc := 11) k_M_wrong_11 rfl f_M_61 rfl (by first | exact ga G (by decide) rfl | assumption) (by first | exact gr G (by decide) rfl | assumption) ?_
            | refine T_iload_n (pc1 := 15) (pc := 14) k_M_wrong_14 rfl rfl ?_
            | refine T_ialdN (pc1 := 16) (pc := 15) k_M_wrong_15 rfl (by first | exact ga G (by decide) rfl | assumption) (by omega) (by omega) (by first | assumption | (simp (disch := omega) only [pI_eq, pI_row, pI_col, va_up_self, va_up_ne, ne_eq, not_false_eq_true, hSo, h1] <;> rfl) | rfl) ?_
            | refine T_iald (pc1 := 16) (pc := 15) k_M_wrong_15 rfl (by first | exact ga G (by decide) rfl | assumption) (by assumption) ?_
            | (with_reducible refine T_if_geN (tgt := 22) (pc1 := 19) (pc := 16) k_M_wrong_16 (by decide) (by decide) (by omega) ?_ <;> first | (exfalso; omega) | skip)
            | refine T_if_ge_t (tgt := 22) (pc := 16) k_M_wrong_16 rfl (by decide) ?_
            | refine T_if_ge_f (tgt := 22) (pc1 := 19) (pc := 16) k_M_wrong_16 rfl rfl (by decide) ?_
            | refine T_if_ge (tgt := 22) (pc1 := 19) (pc := 16) k_M_wrong_16 rfl rfl (fun hc => ?_) (fun hc => ?_)
            | refine T_ldc (v := (-1000000011)) (pc1 := 21) (pc := 19) k_M_wrong_19 rfl c_M_196 ?_
            | refine T_retI (pc := 21) k_M_wrong_21 rfl (by first | rfl | decide | assumption) ?_
            | refine T_iconst (v := (nI 0)) (pc1 := 23) (pc := 22) k_M_wrong_22 rfl (by decide) ?_
            | refine T_istore_n (pc1 := 24) (pc := 23) k_M_wrong_23 rfl (Nat.le_of_ble_eq_true rfl) ?_
            | refine T_iconst (v := (nI 0)) (pc1 := 25) (pc := 24) k_M_wrong_24 rfl (by decide) ?_
            | refine T_istore_n (pc1 := 26) (pc := 25) k_M_wrong_25 rfl (Nat.le_of_ble_eq_true rfl) ?_
            | refine T_aload_n (pc1 := 28) (pc := 27) k_M_wrong_27 rfl rfl ?_
            | refine T_aload_nN (pc1 := 28) (pc := 27) k_M_wrong_27 rfl rfl ?_
            | refine T_getR (pc1 := 31) (pc := 28) k_M_wrong_28 rfl f_M_64 rfl (by first | exact ga G (by decide) rfl | assumption) (by first | exact gr G (by decide) rfl | assumption) ?_
            | refine T_iload_n (pc1 := 32) (pc := 31) k_M_wrong_31 rfl rfl ?_
            | refine T_ialdN (pc1 := 33) (pc := 32) k_M_wrong_32 rfl (by first | exact ga G (by decide) rfl | assumption) (by omega) (by omega) (by first | assumption | (simp (disch := omega) only [pI_eq, pI_row, pI_col, va_up_self, va_up_ne, ne_eq, not_false_eq_true, hSo, h1] <;> rfl) | rfl) ?_
            | refine T_iald (pc1 := 33) (pc := 32) k_M_wrong_32 rfl (by first | exact ga G (by decide) rfl | assumption) (by assumption) ?_
            | (with_reducible refine T_icmp_geN (tgt := 92) (pc1 := 36) (pc := 33) k_M_wrong_33 (by decide) (by decide) (by omega) (by omega) (fun hc => ?_) (fun hc => ?_) <;> first | (exfalso; omega) | skip)
            | refine T_icmp_ge_t (tgt := 92) (pc := 33) k_M_wrong_33 rfl (by decide) ?_
            | refine T_icmp_ge_f (tgt := 92) (pc1 := 36) (pc := 33) k_M_wrong_33 rfl rfl (by decide) ?_
            | refine T_icmp_ge (tgt := 92) (pc1 := 36) (pc := 33) k_M_wrong_33 rfl rfl (fun hc => ?_) (fun hc => ?_)
            | refine T_aload_n (pc1 := 37) (pc := 36) k_M_wrong_36 rfl rfl ?_
            | refine T_aload_nN (pc1 := 37) (pc := 36) k_M_wrong_36 rfl rfl ?_
            | refine T_getR (pc1 := 40) (pc := 37) k_M_wrong_37 rfl f_M_67 rfl (by first | exact ga G (by decide) rfl | assumption) (by first | exact gr G (by decide) rfl | assumption) ?_
            | refine T_bipush (v := (nI 24)) (pc1 := 42) (pc := 40) k_M_wrong_40 rfl (by decide) ?_
            | refine T_iload_n (pc1 := 43) (pc := 42) k_M_wrong_42 rfl rfl ?_
            | with_reducible refine T_imulN (pc1 := 44) (pc := 43) k_M_wrong_43 (by decide) ?_
            | refine T_imul (pc1 := 44) (pc := 43) k_M_wrong_43 rfl ?_
            | refine T_iload_n (pc1 := 45) (pc := 44) k_M_wrong_44 rfl rfl ?_
            | with_reducible refine T_iaddN (pc1 := 46) (pc := 45) k_M_wrong_45 (by decide) ?_
            | refine T_iadd (pc1 := 46) (pc := 45) k_M_wrong_45 rfl ?_
            | refine T_ialdN (pc1 := 47) (pc := 46) k_M_wrong_46 rfl (by first | exact ga G (by decide) rfl | assumption) (by omega) (by omega) (by first | assumption | (simp (disch := omega) only [pI_eq, pI_row, pI_col, va_up_self, va_up_ne, ne_eq, not_false_eq_true, hSo, h1] <;> rfl) | rfl) ?_
            | refine T_iald (pc1 := 47) (pc := 46) k_M_wrong_46 rfl (by first | exact ga G (by decide) rfl | assumption) (by assumption) ?_
            | refine T_istore (pc1 := 49) (pc := 47) k_M_wrong_47 rfl (Nat.le_of_ble_eq_true rfl) ?_
            | refine T_iload_n (pc1 := 50) (pc := 49) k_M_wrong_49 rfl rfl ?_
            | refine T_iload (pc1 := 52) (pc := 50) k_M_wrong_50 rfl rfl ?_
            | refine T_ldc (v := (-1000000005)) (pc1 := 54) (pc := 52) k_M_wrong_52 rfl c_M_103 ?_
            | (with_reducible refine T_icmp_neN (tgt := 61) (pc1 := 57) (pc := 54) k_M_wrong_54 (by decide) (by decide) (by omega) (by omega) (fun hc => ?_) (fun hc => ?_) <;> first | (exfalso; omega) | skip)
            | refine T_icmp_ne_t (tgt := 61) (pc := 54) k_M_wrong_54 rfl (by decide) ?_
            | refine T_icmp_ne_f (tgt := 61) (pc1 := 57) (pc := 54) k_M_wrong_54 rfl rfl (by decide) ?_
            | refine T_icmp_ne (tgt := 61) (pc1 := 57) (pc := 54) k_M_wrong_54 rfl rfl (fun hc => ?_) (fun hc => ?_)
            | refine T_iconst (v := (nI 0)) (pc1 := 58) (pc := 57) k_M_wrong_57 rfl (by decide) ?_
            | refine T_goto (tgt := 84) (pc := 58) k_M_wrong_58 rfl ?_
            | refine T_iload (pc1 := 63) (pc := 61) k_M_wrong_61 rfl rfl ?_
            | refine T_aload_n (pc1 := 64) (pc := 63) k_M_wrong_63 rfl rfl ?_
            | refine T_aload_nN (pc1 := 64) (pc := 63) k_M_wrong_63 rfl rfl ?_
            | refine T_iload_n (pc1 := 65) (pc := 64) k_M_wrong_64 rfl rfl ?_
            | (refine T_cV (As := [_]) (d1 := 2) (pc1 := 68) (pc := 65) k_M_wrong_65 rfl (by decide) (Nat.le_of_ble_eq_true rfl) rfl o_M_isBit l_M_140 rfl (by first | exact ga G (by decide) rfl | assumption) rfl (c_M_isBit G hJN hn h14 (fun hw => ?_) (fun hw => ?_)) <;> try dsimp only [psh])
            | (with_reducible refine T_if_eqN (tgt := 79) (pc1 := 71) (pc := 68) k_M_wrong_68 (by decide) (by decide) (by omega) (fun hc => ?_) (fun hc => ?_) <;> first | (exfalso; omega) | skip)
            | refine T_if_eq_t (tgt := 79) (pc := 68) k_M_wrong_68 rfl (by decide) ?_
            | refine T_if_eq_f (tgt := 79) (pc1 := 71) (pc := 68) k_M_wrong_68 rfl rfl (by decide) ?_
            | refine T_if_eq (tgt := 79) (pc1 := 71) (pc := 68) k_M_wrong_68 rfl rfl (fun hc => ?_) (fun hc => ?_)
            | refine T_aload_n (pc1 := 72) (pc := 71) k_M_wrong_71 rfl rfl ?_
            | refine T_aload_nN (pc1 := 72) (pc := 71) k_M_wrong_71 rfl rfl ?_
            | refine T_iload_n (pc1 := 73) (pc := 72) k_M_wrong_72 rfl rfl ?_
            | (refine T_cV (As := [_]) (d1 := 4) (pc1 := 76) (pc := 73) k_M_wrong_73 rfl (by decide) (Nat.le_of_ble_eq_true rfl) rfl o_M_takes l_M_143 rfl (by first | exact ga G (by decide) rfl | assumption) rfl (c_M_takesN G hJN ok (by have := hw.2; omega) (fun J2 hJ2 => ?_)) <;> try dsimp only [psh])
            | refine T_goto (tgt := 80) (pc := 76) k_M_wrong_76 rfl ?_
            | refine T_iconst (v := (nI 0)) (pc1 := 80) (pc := 79) k_M_wrong_79 rfl (by decide) ?_
            | with_reducible refine T_isubN (pc1 := 81) (pc := 80) k_M_wrong_80 (by decide) (by omega) ?_
            | refine T_isub (pc1 := 81) (pc := 80) k_M_wrong_80 rfl ?_
            | refine T_mabs (pc1 := 84) (pc := 81) k_M_wrong_81 rfl l_M_197 (by decide) (Nat.le_of_ble_eq_true rfl) ?_
            | with_reducible refine T_iaddN (pc1 := 85) (pc := 84) k_M_wrong_84 (by decide) ?_
            | refine T_iadd (pc1 := 85) (pc := 84) k_M_wrong_84 rfl ?_
            | refine T_istore_n (pc1 := 86) (pc := 85) k_M_wrong_85 rfl (Nat.le_of_ble_eq_true rfl) ?_
            | refine T_iincN (b := 1) (pc1 := 89) (pc := 86) k_M_wrong_86 rfl rfl (by decide) ?_
            | refine T_iinc (v := (nI 1)) (pc1 := 89) (pc := 86) k_M_wrong_86 rfl rfl (by decide) ?_
            | refine T_goto (tgt := 26) (pc := 89) k_M_wrong_89 rfl ?_
            | refine T_iload_n (pc1 := 93) (pc := 92) k_M_wrong_92 rfl rfl ?_
            | refine T_retI (pc := 93) k_M_wrong_93 rfl (by first | rfl | decide | assumption) ?_)
          · have ih := ih (some (.int v)) J2 (by omega) (eqx_tr hJ hJ2)
            rw [if_neg (by assumption), if_pos (by have := hw.2; omega)] at ih
            exact ih
          · have ih := ih (some (.int v)) J (by omega) hJ
            rw [if_neg (by assumption), if_neg (fun q => hw ⟨by omega, by omega⟩)] at ih
            exact ih
          · have ih := ih (some (.int v)) J (by omega) hJ
            rw [if_pos (Decidable.not_not.mp (by assumption))] at ih
            exact ih
      rcases h1 with h1 | h1
      all_goals
        repeat' (first
          | refine T_iload_n (pc1 := 1) (pc := 0) k_M_wrong_0 rfl rfl ?_
          | (refine T_cS (As := [_]) (d1 := 2) (pc1 := 4) (pc := 1) k_M_wrong_1 rfl (by decide) (Nat.le_of_ble_eq_true rfl) rfl o_M_isSheet l_M_193 rfl (c_M_isSheet (fun hw => ?_) (fun hw => ?_)) <;> try dsimp only [psh])
          | (with_reducible refine T_if_neN (tgt := 10) (pc1 := 7) (pc := 4) k_M_wrong_4 (by decide) (by decide) (by omega) (fun hc => ?_) (fun hc => ?_) <;> first | (exfalso; omega) | skip)
          | refine T_if_ne_t (tgt := 10) (pc := 4) k_M_wrong_4 rfl (by decide) ?_
          | refine T_if_ne_f (tgt := 10) (pc1 := 7) (pc := 4) k_M_wrong_4 rfl rfl (by decide) ?_
          | refine T_if_ne (tgt := 10) (pc1 := 7) (pc := 4) k_M_wrong_4 rfl rfl (fun hc => ?_) (fun hc => ?_)
          | refine T_ldc (v := (-1000000001)) (pc1 := 9) (pc := 7) k_M_wrong_7 rfl c_M_111 ?_
          | refine T_retI (pc := 9) k_M_wrong_9 rfl (by first | rfl | decide | assumption) ?_
          | refine T_aload_n (pc1 := 11) (pc := 10) k_M_wrong_10 rfl rfl ?_
          | refine T_aload_nN (pc1 := 11) (pc := 10) k_M_wrong_10 rfl rfl ?_
          | refine T_getR (pc1 := 14) (pc := 11) k_M_wrong_11 rfl f_M_61 rfl (by first | exact ga G (by decide) rfl | assumption) (by first | exact gr G (by decide) rfl | assumption) ?_
          | refine T_iload_n (pc1 := 15) (pc := 14) k_M_wrong_14 rfl rfl ?_
          | refine T_ialdN (pc1 := 16) (pc := 15) k_M_wrong_15 rfl (by first | exact ga G (by decide) rfl | assumption) (by omega) (by omega) (by first | assumption | (simp (disch := omega) only [pI_eq, pI_row, pI_col, va_up_self, va_up_ne, ne_eq, not_false_eq_true, hSo, h1] <;> rfl) | rfl) ?_
          | refine T_iald (pc1 := 16) (pc := 15) k_M_wrong_15 rfl (by first | exact ga G (by decide) rfl | assumption) (by assumption) ?_
          | (with_reducible refine T_if_geN (tgt := 22) (pc1 := 19) (pc := 16) k_M_wrong_16 (by decide) (by decide) (by omega) ?_ <;> first | (exfalso; omega) | skip)
          | refine T_if_ge_t (tgt := 22) (pc := 16) k_M_wrong_16 rfl (by decide) ?_
          | refine T_if_ge_f (tgt := 22) (pc1 := 19) (pc := 16) k_M_wrong_16 rfl rfl (by decide) ?_
          | refine T_if_ge (tgt := 22) (pc1 := 19) (pc := 16) k_M_wrong_16 rfl rfl (fun hc => ?_) (fun hc => ?_)
          | refine T_ldc (v := (-1000000011)) (pc1 := 21) (pc := 19) k_M_wrong_19 rfl c_M_196 ?_
          | refine T_retI (pc := 21) k_M_wrong_21 rfl (by first | rfl | decide | assumption) ?_
          | refine T_iconst (v := (nI 0)) (pc1 := 23) (pc := 22) k_M_wrong_22 rfl (by decide) ?_
          | refine T_istore_n (pc1 := 24) (pc := 23) k_M_wrong_23 rfl (Nat.le_of_ble_eq_true rfl) ?_
          | refine T_iconst (v := (nI 0)) (pc1 := 25) (pc := 24) k_M_wrong_24 rfl (by decide) ?_
          | refine T_istore_n (pc1 := 26) (pc := 25) k_M_wrong_25 rfl (Nat.le_of_ble_eq_true rfl) ?_
          | refine T_aload_n (pc1 := 28) (pc := 27) k_M_wrong_27 rfl rfl ?_
          | refine T_aload_nN (pc1 := 28) (pc := 27) k_M_wrong_27 rfl rfl ?_
          | refine T_getR (pc1 := 31) (pc := 28) k_M_wrong_28 rfl f_M_64 rfl (by first | exact ga G (by decide) rfl | assumption) (by first | exact gr G (by decide) rfl | assumption) ?_
          | refine T_iload_n (pc1 := 32) (pc := 31) k_M_wrong_31 rfl rfl ?_
          | refine T_ialdN (pc1 := 33) (pc := 32) k_M_wrong_32 rfl (by first | exact ga G (by decide) rfl | assumption) (by omega) (by omega) (by first | assumption | (simp (disch := omega) only [pI_eq, pI_row, pI_col, va_up_self, va_up_ne, ne_eq, not_false_eq_true, hSo, h1] <;> rfl) | rfl) ?_
          | refine T_iald (pc1 := 33) (pc := 32) k_M_wrong_32 rfl (by first | exact ga G (by decide) rfl | assumption) (by assumption) ?_
          | (with_reducible refine T_icmp_geN (tgt := 92) (pc1 := 36) (pc := 33) k_M_wrong_33 (by decide) (by decide) (by omega) (by omega) (fun hc => ?_) (fun hc => ?_) <;> first | (exfalso; omega) | skip)
          | refine T_icmp_ge_t (tgt := 92) (pc := 33) k_M_wrong_33 rfl (by decide) ?_
          | refine T_icmp_ge_f (tgt := 92) (pc1 := 36) (pc := 33) k_M_wrong_33 rfl rfl (by decide) ?_
          | refine T_icmp_ge (tgt := 92) (pc1 := 36) (pc := 33) k_M_wrong_33 rfl rfl (fun hc => ?_) (fun hc => ?_)
          | refine T_aload_n (pc1 := 37) (pc := 36) k_M_wrong_36 rfl rfl ?_
          | refine T_aload_nN (pc1 := 37) (pc := 36) k_M_wrong_36 rfl rfl ?_
          | refine T_getR (pc1 := 40) (pc := 37) k_M_wrong_37 rfl f_M_67 rfl (by first | exact ga G (by decide) rfl | assumption) (by first | exact gr G (by decide) rfl | assumption) ?_
          | refine T_bipush (v := (nI 24)) (pc1 := 42) (pc := 40) k_M_wrong_40 rfl (by decide) ?_
          | refine T_iload_n (pc1 := 43) (pc := 42) k_M_wrong_42 rfl rfl ?_
          | with_reducible refine T_imulN (pc1 := 44) (pc := 43) k_M_wrong_43 (by decide) ?_
          | refine T_imul (pc1 := 44) (pc := 43) k_M_wrong_43 rfl ?_
          | refine T_iload_n (pc1 := 45) (pc := 44) k_M_wrong_44 rfl rfl ?_
          | with_reducible refine T_iaddN (pc1 := 46) (pc := 45) k_M_wrong_45 (by decide) ?_
          | refine T_iadd (pc1 := 46) (pc := 45) k_M_wrong_45 rfl ?_
          | refine T_ialdN (pc1 := 47) (pc := 46) k_M_wrong_46 rfl (by first | exact ga G (by decide) rfl | assumption) (by omega) (by omega) (by first | assumption | (simp (disch := omega) only [pI_eq, pI_row, pI_col, va_up_self, va_up_ne, ne_eq, not_false_eq_true, hSo, h1] <;> rfl) | rfl) ?_
          | refine T_iald (pc1 := 47) (pc := 46) k_M_wrong_46 rfl (by first | exact ga G (by decide) rfl | assumption) (by assumption) ?_
          | refine T_istore (pc1 := 49) (pc := 47) k_M_wrong_47 rfl (Nat.le_of_ble_eq_true rfl) ?_
          | refine T_iload_n (pc1 := 50) (pc := 49) k_M_wrong_49 rfl rfl ?_
          | refine T_iload (pc1 := 52) (pc := 50) k_M_wrong_50 rfl rfl ?_
          | refine T_ldc (v := (-1000000005)) (pc1 := 54) (pc := 52) k_M_wrong_52 rfl c_M_103 ?_
          | (with_reducible refine T_icmp_neN (tgt := 61) (pc1 := 57) (pc := 54) k_M_wrong_54 (by decide) (by decide) (by omega) (by omega) (fun hc => ?_) (fun hc => ?_) <;> first | (exfalso; omega) | skip)
          | refine T_icmp_ne_t (tgt := 61) (pc := 54) k_M_wrong_54 rfl (by decide) ?_
          | refine T_icmp_ne_f (tgt := 61) (pc1 := 57) (pc := 54) k_M_wrong_54 rfl rfl (by decide) ?_
          | refine T_icmp_ne (tgt := 61) (pc1 := 57) (pc := 54) k_M_wrong_54 rfl rfl (fun hc => ?_) (fun hc => ?_)
          | refine T_iconst (v := (nI 0)) (pc1 := 58) (pc := 57) k_M_wrong_57 rfl (by decide) ?_
          | refine T_goto (tgt := 84) (pc := 58) k_M_wrong_58 rfl ?_
          | refine T_iload (pc1 := 63) (pc := 61) k_M_wrong_61 rfl rfl ?_
          | refine T_aload_n (pc1 := 64) (pc := 63) k_M_wrong_63 rfl rfl ?_
          | refine T_aload_nN (pc1 := 64) (pc := 63) k_M_wrong_63 rfl rfl ?_
          | refine T_iload_n (pc1 := 65) (pc := 64) k_M_wrong_64 rfl rfl ?_
          | (refine T_cV (As := [_]) (d1 := 2) (pc1 := 68) (pc := 65) k_M_wrong_65 rfl (by decide) (Nat.le_of_ble_eq_true rfl) rfl o_M_isBit l_M_140 rfl (by first | exact ga G (by decide) rfl | assumption) rfl (c_M_isBit G hJN hn h14 (fun hw => ?_) (fun hw => ?_)) <;> try dsimp only [psh])
          | (with_reducible refine T_if_eqN (tgt := 79) (pc1 := 71) (pc := 68) k_M_wrong_68 (by decide) (by decide) (by omega) (fun hc => ?_) (fun hc => ?_) <;> first | (exfalso; omega) | skip)
          | refine T_if_eq_t (tgt := 79) (pc := 68) k_M_wrong_68 rfl (by decide) ?_
          | refine T_if_eq_f (tgt := 79) (pc1 := 71) (pc := 68) k_M_wrong_68 rfl rfl (by decide) ?_
          | refine T_if_eq (tgt := 79) (pc1 := 71) (pc := 68) k_M_wrong_68 rfl rfl (fun hc => ?_) (fun hc => ?_)
          | refine T_aload_n (pc1 := 72) (pc := 71) k_M_wrong_71 rfl rfl ?_
          | refine T_aload_nN (pc1 := 72) (pc := 71) k_M_wrong_71 rfl rfl ?_
          | refine T_iload_n (pc1 := 73) (pc := 72) k_M_wrong_72 rfl rfl ?_
          | (refine T_cV (As := [_]) (d1 := 4) (pc1 := 76) (pc := 73) k_M_wrong_73 rfl (by decide) (Nat.le_of_ble_eq_true rfl) rfl o_M_takes l_M_143 rfl (by first | exact ga G (by decide) rfl | assumption) rfl (c_M_takesN G hJN ok (by have := hw.2; omega) (fun J2 hJ2 => ?_)) <;> try dsimp only [psh])
          | refine T_goto (tgt := 80) (pc := 76) k_M_wrong_76 rfl ?_
          | refine T_iconst (v := (nI 0)) (pc1 := 80) (pc := 79) k_M_wrong_79 rfl (by decide) ?_
          | with_reducible refine T_isubN (pc1 := 81) (pc := 80) k_M_wrong_80 (by decide) (by omega) ?_
          | refine T_isub (pc1 := 81) (pc := 80) k_M_wrong_80 rfl ?_
          | refine T_mabs (pc1 := 84) (pc := 81) k_M_wrong_81 rfl l_M_197 (by decide) (Nat.le_of_ble_eq_true rfl) ?_
          | with_reducible refine T_iaddN (pc1 := 85) (pc := 84) k_M_wrong_84 (by decide) ?_
          | refine T_iadd (pc1 := 85) (pc := 84) k_M_wrong_84 rfl ?_
          | refine T_istore_n (pc1 := 86) (pc := 85) k_M_wrong_85 rfl (Nat.le_of_ble_eq_true rfl) ?_
          | refine T_iincN (b := 1) (pc1 := 89) (pc := 86) k_M_wrong_86 rfl rfl (by decide) ?_
          | refine T_iinc (v := (nI 1)) (pc1 := 89) (pc := 86) k_M_wrong_86 rfl rfl (by decide) ?_
          | refine T_goto (tgt := 26) (pc := 89) k_M_wrong_89 rfl ?_
          | refine T_iload_n (pc1 := 93) (pc := 92) k_M_wrong_92 rfl rfl ?_
          | refine T_retI (pc := 93) k_M_wrong_93 rfl (by first | rfl | decide | assumption) ?_)
        all_goals first | exact loop z 0 _ I (by omega) eqx_rf | (exfalso; exact hw hs)
  · rw [wrongA, if_neg hs] at kk
    repeat' (first
      | refine T_iload_n (pc1 := 1) (pc := 0) k_M_wrong_0 rfl rfl ?_
      | (refine T_cS (As := [_]) (d1 := 2) (pc1 := 4) (pc := 1) k_M_wrong_1 rfl (by decide) (Nat.le_of_ble_eq_true rfl) rfl o_M_isSheet l_M_193 rfl (c_M_isSheet (fun hw => ?_) (fun hw => ?_)) <;> try dsimp only [psh])
      | (with_reducible refine T_if_neN (tgt := 10) (pc1 := 7) (pc := 4) k_M_wrong_4 (by decide) (by decide) (by omega) (fun hc => ?_) (fun hc => ?_) <;> first | (exfalso; omega) | skip)
      | refine T_if_ne_t (tgt := 10) (pc := 4) k_M_wrong_4 rfl (by decide) ?_
      | refine T_if_ne_f (tgt := 10) (pc1 := 7) (pc := 4) k_M_wrong_4 rfl rfl (by decide) ?_
      | refine T_if_ne (tgt := 10) (pc1 := 7) (pc := 4) k_M_wrong_4 rfl rfl (fun hc => ?_) (fun hc => ?_)
      | refine T_ldc (v := (-1000000001)) (pc1 := 9) (pc := 7) k_M_wrong_7 rfl c_M_111 ?_
      | refine T_retI (pc := 9) k_M_wrong_9 rfl (by first | rfl | decide | assumption) ?_)
    all_goals first | exact kk _ _ eqx_rf rfl | (exfalso; exact hs (by assumption))
theorem c_M_fine {N : Row} {n tn : Nat} (G : GeoOK g) (hN : I 102 = N) (ok : okL N n tn) (kk : ∀ J, eqx [112, 113] I J → K (some (.int (fineA N tn))) g J) : Cl 3 M_M_fine [.ref 101] g I K := by
  show Rl 3 M_M_fine 0 [some (.ref 101), none] [] g I K
  obtain ⟨h5, hn, h6, h14, -⟩ := id ok
  unfold fineA at kk
  cases htx : txt N 2 tn with
  | none =>
    have hv : opt1 (txt N 2 tn) = -1 := by rw [htx]; rfl
    rw [htx] at kk
    repeat' (first
      | refine T_aload_n (pc1 := 1) (pc := 0) k_M_fine_0 rfl rfl ?_
      | refine T_aload_nN (pc1 := 1) (pc := 0) k_M_fine_0 rfl rfl ?_
      | refine T_iconst (v := (nI 2)) (pc1 := 2) (pc := 1) k_M_fine_1 rfl (by decide) ?_
      | (refine T_cV (As := [_]) (d1 := 1) (pc1 := 5) (pc := 2) k_M_fine_2 rfl (by decide) (Nat.le_of_ble_eq_true rfl) rfl o_M_counting l_M_121 rfl (by first | exact ga G (by decide) rfl | assumption) rfl (c_M_counting G (by assumption) (by assumption) (by assumption) (by assumption) ?_) <;> try dsimp only [psh])
      | refine T_istore_n (pc1 := 6) (pc := 5) k_M_fine_5 rfl (Nat.le_of_ble_eq_true rfl) ?_
      | refine T_aload_n (pc1 := 7) (pc := 6) k_M_fine_6 rfl rfl ?_
      | refine T_aload_nN (pc1 := 7) (pc := 6) k_M_fine_6 rfl rfl ?_
      | refine T_getR (pc1 := 10) (pc := 7) k_M_fine_7 rfl f_M_55 rfl (by first | exact ga G (by decide) rfl | assumption) (by first | exact gr G (by decide) rfl | assumption) ?_
      | refine T_iconst (v := (nI 0)) (pc1 := 11) (pc := 10) k_M_fine_10 rfl (by decide) ?_
      | refine T_aload_n (pc1 := 12) (pc := 11) k_M_fine_11 rfl rfl ?_
      | refine T_aload_nN (pc1 := 12) (pc := 11) k_M_fine_11 rfl rfl ?_
      | refine T_getR (pc1 := 15) (pc := 12) k_M_fine_12 rfl f_M_9 rfl (by first | exact ga G (by decide) rfl | assumption) (by first | exact gr G (by decide) rfl | assumption) ?_
      | refine T_iconst (v := (nI 2)) (pc1 := 16) (pc := 15) k_M_fine_15 rfl (by decide) ?_
      | refine T_ialdN (pc1 := 17) (pc := 16) k_M_fine_16 rfl (by first | exact ga G (by decide) rfl | assumption) (by omega) (by omega) (by first | assumption | (simp (disch := omega) only [pI_eq, pI_row, pI_col, va_up_self, va_up_ne, ne_eq, not_false_eq_true, hN] <;> rfl) | rfl) ?_
      | refine T_iald (pc1 := 17) (pc := 16) k_M_fine_16 rfl (by first | exact ga G (by decide) rfl | assumption) (by assumption) ?_
      | refine T_iastN (pc1 := 18) (pc := 17) k_M_fine_17 rfl (by first | exact ga G (by decide) rfl | assumption) (by omega) (by omega) ?_
      | refine T_aload_n (pc1 := 19) (pc := 18) k_M_fine_18 rfl rfl ?_
      | refine T_aload_nN (pc1 := 19) (pc := 18) k_M_fine_18 rfl rfl ?_
      | refine T_getR (pc1 := 22) (pc := 19) k_M_fine_19 rfl f_M_55 rfl (by first | exact ga G (by decide) rfl | assumption) (by first | exact gr G (by decide) rfl | assumption) ?_
      | refine T_iconst (v := (nI 1)) (pc1 := 23) (pc := 22) k_M_fine_22 rfl (by decide) ?_
      | refine T_aload_n (pc1 := 24) (pc := 23) k_M_fine_23 rfl rfl ?_
      | refine T_aload_nN (pc1 := 24) (pc := 23) k_M_fine_23 rfl rfl ?_
      | refine T_getR (pc1 := 27) (pc := 24) k_M_fine_24 rfl f_M_9 rfl (by first | exact ga G (by decide) rfl | assumption) (by first | exact gr G (by decide) rfl | assumption) ?_
      | refine T_iconst (v := (nI 1)) (pc1 := 28) (pc := 27) k_M_fine_27 rfl (by decide) ?_
      | refine T_ialdN (pc1 := 29) (pc := 28) k_M_fine_28 rfl (by first | exact ga G (by decide) rfl | assumption) (by omega) (by omega) (by first | assumption | (simp (disch := omega) only [pI_eq, pI_row, pI_col, va_up_self, va_up_ne, ne_eq, not_false_eq_true, hN] <;> rfl) | rfl) ?_
      | refine T_iald (pc1 := 29) (pc := 28) k_M_fine_28 rfl (by first | exact ga G (by decide) rfl | assumption) (by assumption) ?_
      | refine T_iastN (pc1 := 30) (pc := 29) k_M_fine_29 rfl (by first | exact ga G (by decide) rfl | assumption) (by omega) (by omega) ?_
      | refine T_iload_n (pc1 := 31) (pc := 30) k_M_fine_30 rfl rfl ?_
      | (with_reducible refine T_if_geN (tgt := 43) (pc1 := 34) (pc := 31) k_M_fine_31 (by decide) (by decide) (by omega) ?_ <;> first | (exfalso; omega) | skip)
      | refine T_if_ge_t (tgt := 43) (pc := 31) k_M_fine_31 rfl (by decide) ?_
      | refine T_if_ge_f (tgt := 43) (pc1 := 34) (pc := 31) k_M_fine_31 rfl rfl (by decide) ?_
      | refine T_if_ge (tgt := 43) (pc1 := 34) (pc := 31) k_M_fine_31 rfl rfl (fun hc => ?_) (fun hc => ?_)
      | refine T_aload_n (pc1 := 35) (pc := 34) k_M_fine_34 rfl rfl ?_
      | refine T_aload_nN (pc1 := 35) (pc := 34) k_M_fine_34 rfl rfl ?_
      | refine T_getR (pc1 := 38) (pc := 35) k_M_fine_35 rfl f_M_9 rfl (by first | exact ga G (by decide) rfl | assumption) (by first | exact gr G (by decide) rfl | assumption) ?_
      | refine T_iconst (v := (nI 2)) (pc1 := 39) (pc := 38) k_M_fine_38 rfl (by decide) ?_
      | refine T_ialdN (pc1 := 40) (pc := 39) k_M_fine_39 rfl (by first | exact ga G (by decide) rfl | assumption) (by omega) (by omega) (by first | assumption | (simp (disch := omega) only [pI_eq, pI_row, pI_col, va_up_self, va_up_ne, ne_eq, not_false_eq_true, hN] <;> rfl) | rfl) ?_
      | refine T_iald (pc1 := 40) (pc := 39) k_M_fine_39 rfl (by first | exact ga G (by decide) rfl | assumption) (by assumption) ?_
      | refine T_goto (tgt := 48) (pc := 40) k_M_fine_40 rfl ?_
      | refine T_aload_n (pc1 := 44) (pc := 43) k_M_fine_43 rfl rfl ?_
      | refine T_aload_nN (pc1 := 44) (pc := 43) k_M_fine_43 rfl rfl ?_
      | refine T_iload_n (pc1 := 45) (pc := 44) k_M_fine_44 rfl rfl ?_
      | refine T_retI (pc := 48) k_M_fine_48 rfl (by first | rfl | decide | assumption) ?_)
    exact kk _ (eqx_pI (eqx_pI eqx_rf _ (by decide)) _ (by decide))
  | some t =>
    have hv : opt1 (txt N 2 tn) = nI t := by rw [htx]; rfl
    rw [htx] at kk
    dsimp only at kk
    obtain ⟨lv, m, ht, hm, hm96, hlv, hok⟩ := okL_txt ok htx (by decide)
    rw [hm, nI_clamp (by omega)] at kk
    repeat' (first
      | refine T_aload_n (pc1 := 1) (pc := 0) k_M_fine_0 rfl rfl ?_
      | refine T_aload_nN (pc1 := 1) (pc := 0) k_M_fine_0 rfl rfl ?_
      | refine T_iconst (v := (nI 2)) (pc1 := 2) (pc := 1) k_M_fine_1 rfl (by decide) ?_
      | (refine T_cV (As := [_]) (d1 := 1) (pc1 := 5) (pc := 2) k_M_fine_2 rfl (by decide) (Nat.le_of_ble_eq_true rfl) rfl o_M_counting l_M_121 rfl (by first | exact ga G (by decide) rfl | assumption) rfl (c_M_counting G (by assumption) (by assumption) (by assumption) (by assumption) ?_) <;> try dsimp only [psh])
      | refine T_istore_n (pc1 := 6) (pc := 5) k_M_fine_5 rfl (Nat.le_of_ble_eq_true rfl) ?_
      | refine T_aload_n (pc1 := 7) (pc := 6) k_M_fine_6 rfl rfl ?_
      | refine T_aload_nN (pc1 := 7) (pc := 6) k_M_fine_6 rfl rfl ?_
      | refine T_getR (pc1 := 10) (pc := 7) k_M_fine_7 rfl f_M_55 rfl (by first | exact ga G (by decide) rfl | assumption) (by first | exact gr G (by decide) rfl | assumption) ?_
      | refine T_iconst (v := (nI 0)) (pc1 := 11) (pc := 10) k_M_fine_10 rfl (by decide) ?_
      | refine T_aload_n (pc1 := 12) (pc := 11) k_M_fine_11 rfl rfl ?_
      | refine T_aload_nN (pc1 := 12) (pc := 11) k_M_fine_11 rfl rfl ?_
      | refine T_getR (pc1 := 15) (pc := 12) k_M_fine_12 rfl f_M_9 rfl (by first | exact ga G (by decide) rfl | assumption) (by first | exact gr G (by decide) rfl | assumption) ?_
      | refine T_iconst (v := (nI 2)) (pc1 := 16) (pc := 15) k_M_fine_15 rfl (by decide) ?_
      | refine T_ialdN (pc1 := 17) (pc := 16) k_M_fine_16 rfl (by first | exact ga G (by decide) rfl | assumption) (by omega) (by omega) (by first | assumption | (simp (disch := omega) only [pI_eq, pI_row, pI_col, va_up_self, va_up_ne, ne_eq, not_false_eq_true, hN] <;> rfl) | rfl) ?_
      | refine T_iald (pc1 := 17) (pc := 16) k_M_fine_16 rfl (by first | exact ga G (by decide) rfl | assumption) (by assumption) ?_
      | refine T_iastN (pc1 := 18) (pc := 17) k_M_fine_17 rfl (by first | exact ga G (by decide) rfl | assumption) (by omega) (by omega) ?_
      | refine T_aload_n (pc1 := 19) (pc := 18) k_M_fine_18 rfl rfl ?_
      | refine T_aload_nN (pc1 := 19) (pc := 18) k_M_fine_18 rfl rfl ?_
      | refine T_getR (pc1 := 22) (pc := 19) k_M_fine_19 rfl f_M_55 rfl (by first | exact ga G (by decide) rfl | assumption) (by first | exact gr G (by decide) rfl | assumption) ?_
      | refine T_iconst (v := (nI 1)) (pc1 := 23) (pc := 22) k_M_fine_22 rfl (by decide) ?_
      | refine T_aload_n (pc1 := 24) (pc := 23) k_M_fine_23 rfl rfl ?_
      | refine T_aload_nN (pc1 := 24) (pc := 23) k_M_fine_23 rfl rfl ?_
      | refine T_getR (pc1 := 27) (pc := 24) k_M_fine_24 rfl f_M_9 rfl (by first | exact ga G (by decide) rfl | assumption) (by first | exact gr G (by decide) rfl | assumption) ?_
      | refine T_iconst (v := (nI 1)) (pc1 := 28) (pc := 27) k_M_fine_27 rfl (by decide) ?_
      | refine T_ialdN (pc1 := 29) (pc := 28) k_M_fine_28 rfl (by first | exact ga G (by decide) rfl | assumption) (by omega) (by omega) (by first | assumption | (simp (disch := omega) only [pI_eq, pI_row, pI_col, va_up_self, va_up_ne, ne_eq, not_false_eq_true, hN] <;> rfl) | rfl) ?_
      | refine T_iald (pc1 := 29) (pc := 28) k_M_fine_28 rfl (by first | exact ga G (by decide) rfl | assumption) (by assumption) ?_
      | refine T_iastN (pc1 := 30) (pc := 29) k_M_fine_29 rfl (by first | exact ga G (by decide) rfl | assumption) (by omega) (by omega) ?_
      | refine T_iload_n (pc1 := 31) (pc := 30) k_M_fine_30 rfl rfl ?_
      | (with_reducible refine T_if_geN (tgt := 43) (pc1 := 34) (pc := 31) k_M_fine_31 (by decide) (by decide) (by omega) ?_ <;> first | (exfalso; omega) | skip)
      | refine T_if_ge_t (tgt := 43) (pc := 31) k_M_fine_31 rfl (by decide) ?_
      | refine T_if_ge_f (tgt := 43) (pc1 := 34) (pc := 31) k_M_fine_31 rfl rfl (by decide) ?_
      | refine T_if_ge (tgt := 43) (pc1 := 34) (pc := 31) k_M_fine_31 rfl rfl (fun hc => ?_) (fun hc => ?_)
      | refine T_aload_n (pc1 := 35) (pc := 34) k_M_fine_34 rfl rfl ?_
      | refine T_aload_nN (pc1 := 35) (pc := 34) k_M_fine_34 rfl rfl ?_
      | refine T_getR (pc1 := 38) (pc := 35) k_M_fine_35 rfl f_M_9 rfl (by first | exact ga G (by decide) rfl | assumption) (by first | exact gr G (by decide) rfl | assumption) ?_
      | refine T_iconst (v := (nI 2)) (pc1 := 39) (pc := 38) k_M_fine_38 rfl (by decide) ?_
      | refine T_ialdN (pc1 := 40) (pc := 39) k_M_fine_39 rfl (by first | exact ga G (by decide) rfl | assumption) (by omega) (by omega) (by first | assumption | (simp (disch := omega) only [pI_eq, pI_row, pI_col, va_up_self, va_up_ne, ne_eq, not_false_eq_true, hN] <;> rfl) | rfl) ?_
      | refine T_iald (pc1 := 40) (pc := 39) k_M_fine_39 rfl (by first | exact ga G (by decide) rfl | assumption) (by assumption) ?_
      | refine T_goto (tgt := 48) (pc := 40) k_M_fine_40 rfl ?_
      | refine T_aload_n (pc1 := 44) (pc := 43) k_M_fine_43 rfl rfl ?_
      | refine T_aload_nN (pc1 := 44) (pc := 43) k_M_fine_43 rfl rfl ?_
      | refine T_iload_n (pc1 := 45) (pc := 44) k_M_fine_44 rfl rfl ?_
      | (refine T_cV (As := [_]) (d1 := 2) (pc1 := 48) (pc := 45) k_M_fine_45 rfl (by decide) (Nat.le_of_ble_eq_true rfl) rfl o_M_worked l_M_127 rfl (by first | exact ga G (by decide) rfl | assumption) rfl (c_M_worked (N := N) (m := m) (lv := lv) (nn := 2) G (by rw [pI_rw (by decide), pI_rw (by decide)]; exact hN) rfl ht hm hm96 hlv (by decide) hok (fun J hJ => ?_)) <;> try dsimp only [psh]))
    rw [evl_congr (nm' := nm3 (N 2) (N 1) (nI 0)) hok (fun k hk => ?_) (by decide)]
    · repeat' (first
        | refine T_aload_n (pc1 := 1) (pc := 0) k_M_fine_0 rfl rfl ?_
        | refine T_aload_nN (pc1 := 1) (pc := 0) k_M_fine_0 rfl rfl ?_
        | refine T_iconst (v := (nI 2)) (pc1 := 2) (pc := 1) k_M_fine_1 rfl (by decide) ?_
        | (refine T_cV (As := [_]) (d1 := 1) (pc1 := 5) (pc := 2) k_M_fine_2 rfl (by decide) (Nat.le_of_ble_eq_true rfl) rfl o_M_counting l_M_121 rfl (by first | exact ga G (by decide) rfl | assumption) rfl (c_M_counting G (by assumption) (by assumption) (by assumption) (by assumption) ?_) <;> try dsimp only [psh])
        | refine T_istore_n (pc1 := 6) (pc := 5) k_M_fine_5 rfl (Nat.le_of_ble_eq_true rfl) ?_
        | refine T_aload_n (pc1 := 7) (pc := 6) k_M_fine_6 rfl rfl ?_
        | refine T_aload_nN (pc1 := 7) (pc := 6) k_M_fine_6 rfl rfl ?_
        | refine T_getR (pc1 := 10) (pc := 7) k_M_fine_7 rfl f_M_55 rfl (by first | exact ga G (by decide) rfl | assumption) (by first | exact gr G (by decide) rfl | assumption) ?_
        | refine T_iconst (v := (nI 0)) (pc1 := 11) (pc := 10) k_M_fine_10 rfl (by decide) ?_
        | refine T_aload_n (pc1 := 12) (pc := 11) k_M_fine_11 rfl rfl ?_
        | refine T_aload_nN (pc1 := 12) (pc := 11) k_M_fine_11 rfl rfl ?_
        | refine T_getR (pc1 := 15) (pc := 12) k_M_fine_12 rfl f_M_9 rfl (by first | exact ga G (by decide) rfl | assumption) (by first | exact gr G (by decide) rfl | assumption) ?_
        | refine T_iconst (v := (nI 2)) (pc1 := 16) (pc := 15) k_M_fine_15 rfl (by decide) ?_
        | refine T_ialdN (pc1 := 17) (pc := 16) k_M_fine_16 rfl (by first | exact ga G (by decide) rfl | assumption) (by omega) (by omega) (by first | assumption | (simp (disch := omega) only [pI_eq, pI_row, pI_col, va_up_self, va_up_ne, ne_eq, not_false_eq_true, hN] <;> rfl) | rfl) ?_
        | refine T_iald (pc1 := 17) (pc := 16) k_M_fine_16 rfl (by first | exact ga G (by decide) rfl | assumption) (by assumption) ?_
        | refine T_iastN (pc1 := 18) (pc := 17) k_M_fine_17 rfl (by first | exact ga G (by decide) rfl | assumption) (by omega) (by omega) ?_
        | refine T_aload_n (pc1 := 19) (pc := 18) k_M_fine_18 rfl rfl ?_
        | refine T_aload_nN (pc1 := 19) (pc := 18) k_M_fine_18 rfl rfl ?_
        | refine T_getR (pc1 := 22) (pc := 19) k_M_fine_19 rfl f_M_55 rfl (by first | exact ga G (by decide) rfl | assumption) (by first | exact gr G (by decide) rfl | assumption) ?_
        | refine T_iconst (v := (nI 1)) (pc1 := 23) (pc := 22) k_M_fine_22 rfl (by decide) ?_
        | refine T_aload_n (pc1 := 24) (pc := 23) k_M_fine_23 rfl rfl ?_
        | refine T_aload_nN (pc1 := 24) (pc := 23) k_M_fine_23 rfl rfl ?_
        | refine T_getR (pc1 := 27) (pc := 24) k_M_fine_24 rfl f_M_9 rfl (by first | exact ga G (by decide) rfl | assumption) (by first | exact gr G (by decide) rfl | assumption) ?_
        | refine T_iconst (v := (nI 1)) (pc1 := 28) (pc := 27) k_M_fine_27 rfl (by decide) ?_
        | refine T_ialdN (pc1 := 29) (pc := 28) k_M_fine_28 rfl (by first | exact ga G (by decide) rfl | assumption) (by omega) (by omega) (by first | assumption | (simp (disch := omega) only [pI_eq, pI_row, pI_col, va_up_self, va_up_ne, ne_eq, not_false_eq_true, hN] <;> rfl) | rfl) ?_
        | refine T_iald (pc1 := 29) (pc := 28) k_M_fine_28 rfl (by first | exact ga G (by decide) rfl | assumption) (by assumption) ?_
        | refine T_iastN (pc1 := 30) (pc := 29) k_M_fine_29 rfl (by first | exact ga G (by decide) rfl | assumption) (by omega) (by omega) ?_
        | refine T_iload_n (pc1 := 31) (pc := 30) k_M_fine_30 rfl rfl ?_
        | (with_reducible refine T_if_geN (tgt := 43) (pc1 := 34) (pc := 31) k_M_fine_31 (by decide) (by decide) (by omega) ?_ <;> first | (exfalso; omega) | skip)
        | refine T_if_ge_t (tgt := 43) (pc := 31) k_M_fine_31 rfl (by decide) ?_
        | refine T_if_ge_f (tgt := 43) (pc1 := 34) (pc := 31) k_M_fine_31 rfl rfl (by decide) ?_
        | refine T_if_ge (tgt := 43) (pc1 := 34) (pc := 31) k_M_fine_31 rfl rfl (fun hc => ?_) (fun hc => ?_)
        | refine T_aload_n (pc1 := 35) (pc := 34) k_M_fine_34 rfl rfl ?_
        | refine T_aload_nN (pc1 := 35) (pc := 34) k_M_fine_34 rfl rfl ?_
        | refine T_getR (pc1 := 38) (pc := 35) k_M_fine_35 rfl f_M_9 rfl (by first | exact ga G (by decide) rfl | assumption) (by first | exact gr G (by decide) rfl | assumption) ?_
        | refine T_iconst (v := (nI 2)) (pc1 := 39) (pc := 38) k_M_fine_38 rfl (by decide) ?_
        | refine T_ialdN (pc1 := 40) (pc := 39) k_M_fine_39 rfl (by first | exact ga G (by decide) rfl | assumption) (by omega) (by omega) (by first | assumption | (simp (disch := omega) only [pI_eq, pI_row, pI_col, va_up_self, va_up_ne, ne_eq, not_false_eq_true, hN] <;> rfl) | rfl) ?_
        | refine T_iald (pc1 := 40) (pc := 39) k_M_fine_39 rfl (by first | exact ga G (by decide) rfl | assumption) (by assumption) ?_
        | refine T_goto (tgt := 48) (pc := 40) k_M_fine_40 rfl ?_
        | refine T_aload_n (pc1 := 44) (pc := 43) k_M_fine_43 rfl rfl ?_
        | refine T_aload_nN (pc1 := 44) (pc := 43) k_M_fine_43 rfl rfl ?_
        | refine T_iload_n (pc1 := 45) (pc := 44) k_M_fine_44 rfl rfl ?_
        | (refine T_cV (As := [_]) (d1 := 2) (pc1 := 48) (pc := 45) k_M_fine_45 rfl (by decide) (Nat.le_of_ble_eq_true rfl) rfl o_M_worked l_M_127 rfl (by first | exact ga G (by decide) rfl | assumption) rfl (c_M_worked (N := N) (m := m) (lv := lv) (nn := 2) G (by rw [pI_rw (by decide), pI_rw (by decide)]; exact hN) rfl ht hm hm96 hlv (by decide) hok (fun J hJ => ?_)) <;> try dsimp only [psh])
        | refine T_retI (pc := 48) k_M_fine_48 rfl (by first | rfl | decide | assumption) ?_)
      exact kk J (eqx_tr (eqx_pI (eqx_pI eqx_rf _ (by decide)) _ (by decide)) (eqx_mono hJ (by decide)))
    · have hk : k < 2 := hk
      obtain rfl | rfl : k = 0 ∨ k = 1 := by omega
      · rw [pI_col (by decide), pI_eq]; rfl
      · rw [pI_eq]; rfl
theorem c_M_lays {T : Row} {z : Nat} {v : Int32} (G : GeoOK g) (hT : I 108 = T) (hz : I 101 8 = nI z) (h96 : z + 4 ≤ 96) (kk : ∀ J, eqx [101, 108] I J → J 108 = lay4 T z v → J 101 = va_up (I 101) 8 (nI (z + 4)) → K none g J) : Cl 1 M_M_lays [.ref 101, .int v] g I K := by
  show Rl 1 M_M_lays 0 [some (.ref 101), some (.int v), none] [] g I K
  repeat' (first
    | refine T_bipush (v := (nI 24)) (pc1 := 2) (pc := 0) k_M_lays_0 rfl (by decide) ?_
    | refine T_istore_n (pc1 := 3) (pc := 2) k_M_lays_2 rfl (Nat.le_of_ble_eq_true rfl) ?_
    | refine T_iload_n (pc1 := 4) (pc := 3) k_M_lays_3 rfl rfl ?_
    | (with_reducible refine T_if_ltN (tgt := 39) (pc1 := 7) (pc := 4) k_M_lays_4 (by decide) (by decide) (by omega) ?_ <;> first | (exfalso; omega) | skip)
    | refine T_if_lt_t (tgt := 39) (pc := 4) k_M_lays_4 rfl (by decide) ?_
    | refine T_if_lt_f (tgt := 39) (pc1 := 7) (pc := 4) k_M_lays_4 rfl rfl (by decide) ?_
    | refine T_if_lt (tgt := 39) (pc1 := 7) (pc := 4) k_M_lays_4 rfl rfl (fun hc => ?_) (fun hc => ?_)
    | refine T_aload_n (pc1 := 8) (pc := 7) k_M_lays_7 rfl rfl ?_
    | refine T_aload_nN (pc1 := 8) (pc := 7) k_M_lays_7 rfl rfl ?_
    | refine T_getR (pc1 := 11) (pc := 8) k_M_lays_8 rfl f_M_28 rfl (by first | exact ga G (by decide) rfl | assumption) (by first | exact gr G (by decide) rfl | assumption) ?_
    | refine T_aload_n (pc1 := 12) (pc := 11) k_M_lays_11 rfl rfl ?_
    | refine T_aload_nN (pc1 := 12) (pc := 11) k_M_lays_11 rfl rfl ?_
    | refine T_getV (pc1 := 15) (pc := 12) k_M_lays_12 rfl f_M_200 rfl (by first | exact ga G (by decide) rfl | assumption) (by first | assumption | (simp (disch := omega) only [pI_eq, pI_row, pI_col, va_up_self, va_up_ne, ne_eq, not_false_eq_true] <;> rfl) | rfl) ?_
    | refine T_iload_n (pc1 := 16) (pc := 15) k_M_lays_15 rfl rfl ?_
    | refine T_iload_n (pc1 := 17) (pc := 16) k_M_lays_16 rfl rfl ?_
    | refine T_ishr (pc1 := 18) (pc := 17) k_M_lays_17 rfl ?_
    | refine T_sipush (v := (nI 255)) (pc1 := 21) (pc := 18) k_M_lays_18 rfl (by decide) ?_
    | (refine T_iand (pc1 := 22) (pc := 21) k_M_lays_21 rfl ?_; first | rw [bytS v _ 24 (by decide) (by decide)] | rw [bytS v _ 16 (by decide) (by decide)] | rw [bytS v _ 8 (by decide) (by decide)] | rw [bytS v _ 0 (by decide) (by decide)])
    | refine T_iastN (pc1 := 23) (pc := 22) k_M_lays_22 rfl (by first | exact ga G (by decide) rfl | assumption) (by omega) (by omega) ?_
    | refine T_aload_n (pc1 := 24) (pc := 23) k_M_lays_23 rfl rfl ?_
    | refine T_aload_nN (pc1 := 24) (pc := 23) k_M_lays_23 rfl rfl ?_
    | refine T_dup (pc1 := 25) (pc := 24) k_M_lays_24 rfl rfl ?_
    | refine T_getV (pc1 := 28) (pc := 25) k_M_lays_25 rfl f_M_200 rfl (by first | exact ga G (by decide) rfl | assumption) (by first | assumption | (simp (disch := omega) only [pI_eq, pI_row, pI_col, va_up_self, va_up_ne, ne_eq, not_false_eq_true] <;> rfl) | rfl) ?_
    | refine T_iconst (v := (nI 1)) (pc1 := 29) (pc := 28) k_M_lays_28 rfl (by decide) ?_
    | with_reducible refine T_iaddN (pc1 := 30) (pc := 29) k_M_lays_29 (by decide) ?_
    | refine T_iadd (pc1 := 30) (pc := 29) k_M_lays_29 rfl ?_
    | refine T_putI (pc1 := 33) (pc := 30) k_M_lays_30 rfl f_M_200 rfl (by first | exact ga G (by decide) rfl | assumption) (by first | rfl | decide | assumption) (by first | rfl | decide | assumption) ?_
    | (refine T_iinc (v := (-8)) (pc1 := 36) (pc := 33) k_M_lays_33 rfl rfl (by decide) ?_; first | rw [show nI 24 + (-8 : Int32) = nI 16 from by decide] | rw [show nI 16 + (-8 : Int32) = nI 8 from by decide] | rw [show nI 8 + (-8 : Int32) = nI 0 from by decide] | rw [show nI 0 + (-8 : Int32) = (-8) from by decide])
    | refine T_goto (tgt := 3) (pc := 36) k_M_lays_36 rfl ?_
    | refine T_retV (pc := 39) k_M_lays_39 rfl ?_)
  refine kk _ (eqx_pI (eqx_pI (eqx_pI (eqx_pI (eqx_pI (eqx_pI (eqx_pI (eqx_pI eqx_rf _ (by decide)) _ (by decide)) _ (by decide)) _ (by decide)) _ (by decide)) _ (by decide)) _ (by decide)) _ (by decide)) ?_ ?_
  · simp only [pI_self, pI_rw (show (108 : Nat) ≠ 101 by decide), hT]
    rfl
  · simp only [pI_self, pI_rw (show (101 : Nat) ≠ 108 by decide), bx_uu]
theorem c_M_feed {T : Row} {z : Nat} {a b c : Int32} (G : GeoOK g) (hT : I 108 = T) (hz : I 101 8 = nI z) (h96 : z ≤ 96) (kk : ∀ J r, eqx [101, 108] I J → J 108 = feedT T z a b c → J 101 = va_up (I 101) 8 (nI (feedZ z)) → r = feedA z → K (some (.int r)) g J) : Cl 2 M_M_feed [.ref 101, .int a, .int b, .int c] g I K := by
  show Rl 2 M_M_feed 0 [some (.ref 101), some (.int a), some (.int b), some (.int c)] [] g I K
  unfold feedT feedZ feedA at kk
  by_cases h : z + 12 ≤ 96
  · rw [if_pos h, if_pos h, if_pos h] at kk
    repeat' (first
      | refine T_aload_n (pc1 := 1) (pc := 0) k_M_feed_0 rfl rfl ?_
      | refine T_aload_nN (pc1 := 1) (pc := 0) k_M_feed_0 rfl rfl ?_
      | refine T_getV (pc1 := 4) (pc := 1) k_M_feed_1 rfl f_M_200 rfl (by first | exact ga G (by decide) rfl | assumption) (by first | assumption | (simp (disch := omega) only [pI_eq, pI_row, pI_col, va_up_self, va_up_ne, ne_eq, not_false_eq_true] <;> rfl) | rfl) ?_
      | refine T_bipush (v := (nI 12)) (pc1 := 6) (pc := 4) k_M_feed_4 rfl (by decide) ?_
      | with_reducible refine T_iaddN (pc1 := 7) (pc := 6) k_M_feed_6 (by decide) ?_
      | refine T_iadd (pc1 := 7) (pc := 6) k_M_feed_6 rfl ?_
      | refine T_bipush (v := (nI 96)) (pc1 := 9) (pc := 7) k_M_feed_7 rfl (by decide) ?_
      | (with_reducible refine T_icmp_leN (tgt := 15) (pc1 := 12) (pc := 9) k_M_feed_9 (by decide) (by decide) (by omega) (by omega) (fun hc => ?_) (fun hc => ?_) <;> first | (exfalso; omega) | skip)
      | refine T_icmp_le_t (tgt := 15) (pc := 9) k_M_feed_9 rfl (by decide) ?_
      | refine T_icmp_le_f (tgt := 15) (pc1 := 12) (pc := 9) k_M_feed_9 rfl rfl (by decide) ?_
      | refine T_icmp_le (tgt := 15) (pc1 := 12) (pc := 9) k_M_feed_9 rfl rfl (fun hc => ?_) (fun hc => ?_)
      | refine T_ldc (v := (-1000000003)) (pc1 := 14) (pc := 12) k_M_feed_12 rfl c_M_112 ?_
      | refine T_retI (pc := 14) k_M_feed_14 rfl (by first | rfl | decide | assumption) ?_
      | refine T_aload_n (pc1 := 16) (pc := 15) k_M_feed_15 rfl rfl ?_
      | refine T_aload_nN (pc1 := 16) (pc := 15) k_M_feed_15 rfl rfl ?_
      | refine T_iload_n (pc1 := 17) (pc := 16) k_M_feed_16 rfl rfl ?_
      | (refine T_cV (As := [_]) (d1 := 1) (pc1 := 20) (pc := 17) k_M_feed_17 rfl (by decide) (Nat.le_of_ble_eq_true rfl) rfl o_M_lays l_M_204 rfl (by first | exact ga G (by decide) rfl | assumption) rfl (c_M_lays G hT hz (by omega) (fun J hJ hJT hJz => ?_)) <;> try dsimp only [psh])
      | refine T_aload_n (pc1 := 21) (pc := 20) k_M_feed_20 rfl rfl ?_
      | refine T_aload_nN (pc1 := 21) (pc := 20) k_M_feed_20 rfl rfl ?_
      | refine T_iload_n (pc1 := 22) (pc := 21) k_M_feed_21 rfl rfl ?_
      | (refine T_cV (As := [_]) (d1 := 1) (pc1 := 25) (pc := 22) k_M_feed_22 rfl (by decide) (Nat.le_of_ble_eq_true rfl) rfl o_M_lays l_M_204 rfl (by first | exact ga G (by decide) rfl | assumption) rfl (c_M_lays (z := z + 4) G hJT (by rw [hJz, va_up_self]) (by omega) (fun J2 hJ2 hJT2 hJz2 => ?_)) <;> try dsimp only [psh])
      | refine T_aload_n (pc1 := 26) (pc := 25) k_M_feed_25 rfl rfl ?_
      | refine T_aload_nN (pc1 := 26) (pc := 25) k_M_feed_25 rfl rfl ?_
      | refine T_iload_n (pc1 := 27) (pc := 26) k_M_feed_26 rfl rfl ?_
      | (refine T_cV (As := [_]) (d1 := 1) (pc1 := 30) (pc := 27) k_M_feed_27 rfl (by decide) (Nat.le_of_ble_eq_true rfl) rfl o_M_lays l_M_204 rfl (by first | exact ga G (by decide) rfl | assumption) rfl (c_M_lays (z := z + 8) G hJT2 (by rw [hJz2, va_up_self]) (by omega) (fun J3 hJ3 hJT3 hJz3 => ?_)) <;> try dsimp only [psh])
      | refine T_getV (pc1 := 34) (pc := 31) k_M_feed_31 rfl f_M_200 rfl (by first | exact ga G (by decide) rfl | assumption) (by first | assumption | (simp (disch := omega) only [pI_eq, pI_row, pI_col, va_up_self, va_up_ne, ne_eq, not_false_eq_true] <;> rfl) | rfl) ?_
      | refine T_retI (pc := 34) k_M_feed_34 rfl (by first | rfl | decide | assumption) ?_)
    have e : J3 101 8 = nI (z + 12) := by rw [hJz3, va_up_self]
    repeat' (first
      | refine T_aload_n (pc1 := 1) (pc := 0) k_M_feed_0 rfl rfl ?_
      | refine T_aload_nN (pc1 := 1) (pc := 0) k_M_feed_0 rfl rfl ?_
      | refine T_getV (pc1 := 4) (pc := 1) k_M_feed_1 rfl f_M_200 rfl (by first | exact ga G (by decide) rfl | assumption) (by first | assumption | (simp (disch := omega) only [pI_eq, pI_row, pI_col, va_up_self, va_up_ne, ne_eq, not_false_eq_true] <;> rfl) | rfl) ?_
      | refine T_bipush (v := (nI 12)) (pc1 := 6) (pc := 4) k_M_feed_4 rfl (by decide) ?_
      | with_reducible refine T_iaddN (pc1 := 7) (pc := 6) k_M_feed_6 (by decide) ?_
      | refine T_iadd (pc1 := 7) (pc := 6) k_M_feed_6 rfl ?_
      | refine T_bipush (v := (nI 96)) (pc1 := 9) (pc := 7) k_M_feed_7 rfl (by decide) ?_
      | (with_reducible refine T_icmp_leN (tgt := 15) (pc1 := 12) (pc := 9) k_M_feed_9 (by decide) (by decide) (by omega) (by omega) (fun hc => ?_) (fun hc => ?_) <;> first | (exfalso; omega) | skip)
      | refine T_icmp_le_t (tgt := 15) (pc := 9) k_M_feed_9 rfl (by decide) ?_
      | refine T_icmp_le_f (tgt := 15) (pc1 := 12) (pc := 9) k_M_feed_9 rfl rfl (by decide) ?_
      | refine T_icmp_le (tgt := 15) (pc1 := 12) (pc := 9) k_M_feed_9 rfl rfl (fun hc => ?_) (fun hc => ?_)
      | refine T_ldc (v := (-1000000003)) (pc1 := 14) (pc := 12) k_M_feed_12 rfl c_M_112 ?_
      | refine T_retI (pc := 14) k_M_feed_14 rfl (by first | rfl | decide | assumption) ?_
      | refine T_aload_n (pc1 := 16) (pc := 15) k_M_feed_15 rfl rfl ?_
      | refine T_aload_nN (pc1 := 16) (pc := 15) k_M_feed_15 rfl rfl ?_
      | refine T_iload_n (pc1 := 17) (pc := 16) k_M_feed_16 rfl rfl ?_
      | (refine T_cV (As := [_]) (d1 := 1) (pc1 := 20) (pc := 17) k_M_feed_17 rfl (by decide) (Nat.le_of_ble_eq_true rfl) rfl o_M_lays l_M_204 rfl (by first | exact ga G (by decide) rfl | assumption) rfl (c_M_lays G hT hz (by omega) (fun J hJ hJT hJz => ?_)) <;> try dsimp only [psh])
      | refine T_aload_n (pc1 := 21) (pc := 20) k_M_feed_20 rfl rfl ?_
      | refine T_aload_nN (pc1 := 21) (pc := 20) k_M_feed_20 rfl rfl ?_
      | refine T_iload_n (pc1 := 22) (pc := 21) k_M_feed_21 rfl rfl ?_
      | (refine T_cV (As := [_]) (d1 := 1) (pc1 := 25) (pc := 22) k_M_feed_22 rfl (by decide) (Nat.le_of_ble_eq_true rfl) rfl o_M_lays l_M_204 rfl (by first | exact ga G (by decide) rfl | assumption) rfl (c_M_lays (z := z + 4) G hJT (by rw [hJz, va_up_self]) (by omega) (fun J2 hJ2 hJT2 hJz2 => ?_)) <;> try dsimp only [psh])
      | refine T_aload_n (pc1 := 26) (pc := 25) k_M_feed_25 rfl rfl ?_
      | refine T_aload_nN (pc1 := 26) (pc := 25) k_M_feed_25 rfl rfl ?_
      | refine T_iload_n (pc1 := 27) (pc := 26) k_M_feed_26 rfl rfl ?_
      | (refine T_cV (As := [_]) (d1 := 1) (pc1 := 30) (pc := 27) k_M_feed_27 rfl (by decide) (Nat.le_of_ble_eq_true rfl) rfl o_M_lays l_M_204 rfl (by first | exact ga G (by decide) rfl | assumption) rfl (c_M_lays (z := z + 8) G hJT2 (by rw [hJz2, va_up_self]) (by omega) (fun J3 hJ3 hJT3 hJz3 => ?_)) <;> try dsimp only [psh])
      | refine T_aload_n (pc1 := 31) (pc := 30) k_M_feed_30 rfl rfl ?_
      | refine T_aload_nN (pc1 := 31) (pc := 30) k_M_feed_30 rfl rfl ?_
      | refine T_getV (pc1 := 34) (pc := 31) k_M_feed_31 rfl f_M_200 rfl (by first | exact ga G (by decide) rfl | assumption) (by first | assumption | (simp (disch := omega) only [pI_eq, pI_row, pI_col, va_up_self, va_up_ne, ne_eq, not_false_eq_true] <;> rfl) | rfl) ?_
      | refine T_retI (pc := 34) k_M_feed_34 rfl (by first | rfl | decide | assumption) ?_)
    refine kk J3 _ (eqx_tr hJ (eqx_tr hJ2 hJ3)) hJT3 ?_ rfl
    rw [hJz3, hJz2, hJz, bx_uu, bx_uu]
  · rw [if_neg h, if_neg h, if_neg h] at kk
    repeat' (first
      | refine T_aload_n (pc1 := 1) (pc := 0) k_M_feed_0 rfl rfl ?_
      | refine T_aload_nN (pc1 := 1) (pc := 0) k_M_feed_0 rfl rfl ?_
      | refine T_getV (pc1 := 4) (pc := 1) k_M_feed_1 rfl f_M_200 rfl (by first | exact ga G (by decide) rfl | assumption) (by first | assumption | (simp (disch := omega) only [pI_eq, pI_row, pI_col, va_up_self, va_up_ne, ne_eq, not_false_eq_true] <;> rfl) | rfl) ?_
      | refine T_bipush (v := (nI 12)) (pc1 := 6) (pc := 4) k_M_feed_4 rfl (by decide) ?_
      | with_reducible refine T_iaddN (pc1 := 7) (pc := 6) k_M_feed_6 (by decide) ?_
      | refine T_iadd (pc1 := 7) (pc := 6) k_M_feed_6 rfl ?_
      | refine T_bipush (v := (nI 96)) (pc1 := 9) (pc := 7) k_M_feed_7 rfl (by decide) ?_
      | (with_reducible refine T_icmp_leN (tgt := 15) (pc1 := 12) (pc := 9) k_M_feed_9 (by decide) (by decide) (by omega) (by omega) (fun hc => ?_) (fun hc => ?_) <;> first | (exfalso; omega) | skip)
      | refine T_icmp_le_t (tgt := 15) (pc := 9) k_M_feed_9 rfl (by decide) ?_
      | refine T_icmp_le_f (tgt := 15) (pc1 := 12) (pc := 9) k_M_feed_9 rfl rfl (by decide) ?_
      | refine T_icmp_le (tgt := 15) (pc1 := 12) (pc := 9) k_M_feed_9 rfl rfl (fun hc => ?_) (fun hc => ?_)
      | refine T_ldc (v := (-1000000003)) (pc1 := 14) (pc := 12) k_M_feed_12 rfl c_M_112 ?_
      | refine T_retI (pc := 14) k_M_feed_14 rfl (by first | rfl | decide | assumption) ?_)
    exact kk I _ eqx_rf hT (up_eta hz).symm rfl
theorem c_M_trim {z : Nat} {v : Int32} (G : GeoOK g) (hz : I 101 8 = nI z) (h96 : z ≤ 96) (kk : ∀ J r, eqx [101] I J → J 101 = va_up (I 101) 8 (nI (trimZ z v)) → r = trimA z v → K (some (.int r)) g J) : Cl 2 M_M_trim [.ref 101, .int v] g I K := by
  show Rl 2 M_M_trim 0 [some (.ref 101), some (.int v)] [] g I K
  have e0 : (nI 0).toInt = 0 := rfl
  have ez := nI_toInt (n := z) (by omega)
  unfold trimZ trimA at kk
  by_cases h : bt 0 z v
  · rw [if_pos h, if_pos h] at kk
    obtain ⟨q, -, hq, rfl⟩ := bt_of (lo := 0) (hi := z) h (by omega)
    rw [nI_clamp (by omega)] at kk
    repeat' (first
      | refine T_iload_n (pc1 := 1) (pc := 0) k_M_trim_0 rfl rfl ?_
      | refine T_iconst (v := (nI 0)) (pc1 := 2) (pc := 1) k_M_trim_1 rfl (by decide) ?_
      | refine T_aload_n (pc1 := 3) (pc := 2) k_M_trim_2 rfl rfl ?_
      | refine T_aload_nN (pc1 := 3) (pc := 2) k_M_trim_2 rfl rfl ?_
      | refine T_getV (pc1 := 6) (pc := 3) k_M_trim_3 rfl f_M_200 rfl (by first | exact ga G (by decide) rfl | assumption) (by first | assumption | (simp (disch := omega) only [pI_eq, pI_row, pI_col, va_up_self, va_up_ne, ne_eq, not_false_eq_true] <;> rfl) | rfl) ?_
      | (refine T_cS (As := [_, _, _]) (d1 := 1) (pc1 := 9) (pc := 6) k_M_trim_6 rfl (by decide) (Nat.le_of_ble_eq_true rfl) rfl o_M_within l_M_95 rfl (c_M_within (fun hw => ?_) (fun hw => ?_)) <;> try dsimp only [psh])
      | (with_reducible refine T_if_neN (tgt := 15) (pc1 := 12) (pc := 9) k_M_trim_9 (by decide) (by decide) (by omega) (fun hc => ?_) (fun hc => ?_) <;> first | (exfalso; omega) | skip)
      | refine T_if_ne_t (tgt := 15) (pc := 9) k_M_trim_9 rfl (by decide) ?_
      | refine T_if_ne_f (tgt := 15) (pc1 := 12) (pc := 9) k_M_trim_9 rfl rfl (by decide) ?_
      | refine T_if_ne (tgt := 15) (pc1 := 12) (pc := 9) k_M_trim_9 rfl rfl (fun hc => ?_) (fun hc => ?_)
      | refine T_ldc (v := (-1000000001)) (pc1 := 14) (pc := 12) k_M_trim_12 rfl c_M_111 ?_
      | refine T_retI (pc := 14) k_M_trim_14 rfl (by first | rfl | decide | assumption) ?_
      | refine T_aload_n (pc1 := 16) (pc := 15) k_M_trim_15 rfl rfl ?_
      | refine T_aload_nN (pc1 := 16) (pc := 15) k_M_trim_15 rfl rfl ?_
      | refine T_iload_n (pc1 := 17) (pc := 16) k_M_trim_16 rfl rfl ?_
      | refine T_putI (pc1 := 20) (pc := 17) k_M_trim_17 rfl f_M_200 rfl (by first | exact ga G (by decide) rfl | assumption) (by first | rfl | decide | assumption) (by first | rfl | decide | assumption) ?_
      | refine T_iload_n (pc1 := 21) (pc := 20) k_M_trim_20 rfl rfl ?_
      | refine T_retI (pc := 21) k_M_trim_21 rfl (by first | rfl | decide | assumption) ?_)
    all_goals first | exact kk _ _ (eqx_pI eqx_rf _ (by decide)) pI_self rfl | (exfalso; have := h.1; have := h.2; apply hw; constructor <;> omega)
  · rw [if_neg h, if_neg h] at kk
    repeat' (first
      | refine T_iload_n (pc1 := 1) (pc := 0) k_M_trim_0 rfl rfl ?_
      | refine T_iconst (v := (nI 0)) (pc1 := 2) (pc := 1) k_M_trim_1 rfl (by decide) ?_
      | refine T_aload_n (pc1 := 3) (pc := 2) k_M_trim_2 rfl rfl ?_
      | refine T_aload_nN (pc1 := 3) (pc := 2) k_M_trim_2 rfl rfl ?_
      | refine T_getV (pc1 := 6) (pc := 3) k_M_trim_3 rfl f_M_200 rfl (by first | exact ga G (by decide) rfl | assumption) (by first | assumption | (simp (disch := omega) only [pI_eq, pI_row, pI_col, va_up_self, va_up_ne, ne_eq, not_false_eq_true] <;> rfl) | rfl) ?_
      | (refine T_cS (As := [_, _, _]) (d1 := 1) (pc1 := 9) (pc := 6) k_M_trim_6 rfl (by decide) (Nat.le_of_ble_eq_true rfl) rfl o_M_within l_M_95 rfl (c_M_within (fun hw => ?_) (fun hw => ?_)) <;> try dsimp only [psh])
      | (with_reducible refine T_if_neN (tgt := 15) (pc1 := 12) (pc := 9) k_M_trim_9 (by decide) (by decide) (by omega) (fun hc => ?_) (fun hc => ?_) <;> first | (exfalso; omega) | skip)
      | refine T_if_ne_t (tgt := 15) (pc := 9) k_M_trim_9 rfl (by decide) ?_
      | refine T_if_ne_f (tgt := 15) (pc1 := 12) (pc := 9) k_M_trim_9 rfl rfl (by decide) ?_
      | refine T_if_ne (tgt := 15) (pc1 := 12) (pc := 9) k_M_trim_9 rfl rfl (fun hc => ?_) (fun hc => ?_)
      | refine T_ldc (v := (-1000000001)) (pc1 := 14) (pc := 12) k_M_trim_12 rfl c_M_111 ?_
      | refine T_retI (pc := 14) k_M_trim_14 rfl (by first | rfl | decide | assumption) ?_)
    all_goals first | exact kk I _ eqx_rf (up_eta hz).symm rfl | (exfalso; apply h; constructor <;> omega)
theorem c_M_textTold {N : Row} {n tn : Nat} {t w : Int32} (G : GeoOK g) (hN : I 102 = N) (ok : okL N n tn) (kk : ∀ r, r = textToldA N tn t w → K (some (.int r)) g I) : Cl 2 M_M_textTold [.ref 101, .int t, .int w] g I K := by
  show Rl 2 M_M_textTold 0 [some (.ref 101), some (.int t), some (.int w)] [] g I K
  obtain ⟨h5, hn, h6, h14, -⟩ := id ok
  have e0 : (nI 0).toInt = 0 := rfl
  have e1 : (nI 1).toInt = 1 := rfl
  have es := sub1_toInt (n := tn) (by omega)
  unfold textToldA at kk
  by_cases h : rg tn t ∧ rg 2 w
  · rw [if_pos h] at kk
    obtain ⟨q, hq, rfl⟩ := rg_of h.1 (by omega)
    obtain ⟨p, hp, rfl⟩ := rg_of h.2 (by omega)
    rw [nI_clamp (by omega), nI_clamp (by omega)] at kk
    have := h.1.1
    have := h.1.2
    have := h.2.1
    have := h.2.2
    repeat' (first
      | refine T_iload_n (pc1 := 1) (pc := 0) k_M_textTold_0 rfl rfl ?_
      | refine T_iconst (v := (nI 0)) (pc1 := 2) (pc := 1) k_M_textTold_1 rfl (by decide) ?_
      | refine T_aload_n (pc1 := 3) (pc := 2) k_M_textTold_2 rfl rfl ?_
      | refine T_aload_nN (pc1 := 3) (pc := 2) k_M_textTold_2 rfl rfl ?_
      | refine T_getR (pc1 := 6) (pc := 3) k_M_textTold_3 rfl f_M_9 rfl (by first | exact ga G (by decide) rfl | assumption) (by first | exact gr G (by decide) rfl | assumption) ?_
      | refine T_bipush (v := (nI 6)) (pc1 := 8) (pc := 6) k_M_textTold_6 rfl (by decide) ?_
      | refine T_ialdN (pc1 := 9) (pc := 8) k_M_textTold_8 rfl (by first | exact ga G (by decide) rfl | assumption) (by omega) (by omega) (by first | assumption | (simp (disch := omega) only [pI_eq, pI_row, pI_col, va_up_self, va_up_ne, ne_eq, not_false_eq_true, hN, h6] <;> rfl) | rfl) ?_
      | refine T_iald (pc1 := 9) (pc := 8) k_M_textTold_8 rfl (by first | exact ga G (by decide) rfl | assumption) (by assumption) ?_
      | refine T_iconst (v := (nI 1)) (pc1 := 10) (pc := 9) k_M_textTold_9 rfl (by decide) ?_
      | refine T_isub (pc1 := 11) (pc := 10) k_M_textTold_10 rfl ?_
      | (refine T_cS (As := [_, _, _]) (d1 := 1) (pc1 := 14) (pc := 11) k_M_textTold_11 rfl (by decide) (Nat.le_of_ble_eq_true rfl) rfl o_M_within l_M_95 rfl (c_M_within (fun hw => ?_) (fun hw => ?_)) <;> try dsimp only [psh])
      | (with_reducible refine T_if_eqN (tgt := 44) (pc1 := 17) (pc := 14) k_M_textTold_14 (by decide) (by decide) (by omega) (fun hc => ?_) (fun hc => ?_) <;> first | (exfalso; omega) | skip)
      | refine T_if_eq_t (tgt := 44) (pc := 14) k_M_textTold_14 rfl (by decide) ?_
      | refine T_if_eq_f (tgt := 44) (pc1 := 17) (pc := 14) k_M_textTold_14 rfl rfl (by decide) ?_
      | refine T_if_eq (tgt := 44) (pc1 := 17) (pc := 14) k_M_textTold_14 rfl rfl (fun hc => ?_) (fun hc => ?_)
      | refine T_iload_n (pc1 := 18) (pc := 17) k_M_textTold_17 rfl rfl ?_
      | refine T_iconst (v := (nI 0)) (pc1 := 19) (pc := 18) k_M_textTold_18 rfl (by decide) ?_
      | refine T_iconst (v := (nI 1)) (pc1 := 20) (pc := 19) k_M_textTold_19 rfl (by decide) ?_
      | (refine T_cS (As := [_, _, _]) (d1 := 1) (pc1 := 23) (pc := 20) k_M_textTold_20 rfl (by decide) (Nat.le_of_ble_eq_true rfl) rfl o_M_within l_M_95 rfl (c_M_within (fun hw => ?_) (fun hw => ?_)) <;> try dsimp only [psh])
      | (with_reducible refine T_if_eqN (tgt := 44) (pc1 := 26) (pc := 23) k_M_textTold_23 (by decide) (by decide) (by omega) (fun hc => ?_) (fun hc => ?_) <;> first | (exfalso; omega) | skip)
      | refine T_if_eq_t (tgt := 44) (pc := 23) k_M_textTold_23 rfl (by decide) ?_
      | refine T_if_eq_f (tgt := 44) (pc1 := 26) (pc := 23) k_M_textTold_23 rfl rfl (by decide) ?_
      | refine T_if_eq (tgt := 44) (pc1 := 26) (pc := 23) k_M_textTold_23 rfl rfl (fun hc => ?_) (fun hc => ?_)
      | refine T_aload_n (pc1 := 27) (pc := 26) k_M_textTold_26 rfl rfl ?_
      | refine T_aload_nN (pc1 := 27) (pc := 26) k_M_textTold_26 rfl rfl ?_
      | refine T_getR (pc1 := 30) (pc := 27) k_M_textTold_27 rfl f_M_9 rfl (by first | exact ga G (by decide) rfl | assumption) (by first | exact gr G (by decide) rfl | assumption) ?_
      | refine T_sipush (v := (nI 156)) (pc1 := 33) (pc := 30) k_M_textTold_30 rfl (by decide) ?_
      | refine T_bipush (v := (nI 100)) (pc1 := 35) (pc := 33) k_M_textTold_33 rfl (by decide) ?_
      | refine T_iload_n (pc1 := 36) (pc := 35) k_M_textTold_35 rfl rfl ?_
      | with_reducible refine T_imulN (pc1 := 37) (pc := 36) k_M_textTold_36 (by decide) ?_
      | refine T_imul (pc1 := 37) (pc := 36) k_M_textTold_36 rfl ?_
      | with_reducible refine T_iaddN (pc1 := 38) (pc := 37) k_M_textTold_37 (by decide) ?_
      | refine T_iadd (pc1 := 38) (pc := 37) k_M_textTold_37 rfl ?_
      | refine T_iload_n (pc1 := 39) (pc := 38) k_M_textTold_38 rfl rfl ?_
      | with_reducible refine T_iaddN (pc1 := 40) (pc := 39) k_M_textTold_39 (by decide) ?_
      | refine T_iadd (pc1 := 40) (pc := 39) k_M_textTold_39 rfl ?_
      | refine T_ialdN (pc1 := 41) (pc := 40) k_M_textTold_40 rfl (by first | exact ga G (by decide) rfl | assumption) (by omega) (by omega) (by first | assumption | (simp (disch := omega) only [pI_eq, pI_row, pI_col, va_up_self, va_up_ne, ne_eq, not_false_eq_true, hN, h6] <;> rfl) | rfl) ?_
      | refine T_iald (pc1 := 41) (pc := 40) k_M_textTold_40 rfl (by first | exact ga G (by decide) rfl | assumption) (by assumption) ?_
      | refine T_goto (tgt := 46) (pc := 41) k_M_textTold_41 rfl ?_
      | refine T_ldc (v := (-1000000001)) (pc1 := 46) (pc := 44) k_M_textTold_44 rfl c_M_111 ?_
      | refine T_retI (pc := 46) k_M_textTold_46 rfl (by first | rfl | decide | assumption) ?_)
    all_goals first | exact kk _ (by rw [hN]) | exact kk _ rfl | (exfalso; apply hw; constructor <;> omega)
  · rw [if_neg h] at kk
    repeat' (first
      | refine T_iload_n (pc1 := 1) (pc := 0) k_M_textTold_0 rfl rfl ?_
      | refine T_iconst (v := (nI 0)) (pc1 := 2) (pc := 1) k_M_textTold_1 rfl (by decide) ?_
      | refine T_aload_n (pc1 := 3) (pc := 2) k_M_textTold_2 rfl rfl ?_
      | refine T_aload_nN (pc1 := 3) (pc := 2) k_M_textTold_2 rfl rfl ?_
      | refine T_getR (pc1 := 6) (pc := 3) k_M_textTold_3 rfl f_M_9 rfl (by first | exact ga G (by decide) rfl | assumption) (by first | exact gr G (by decide) rfl | assumption) ?_
      | refine T_bipush (v := (nI 6)) (pc1 := 8) (pc := 6) k_M_textTold_6 rfl (by decide) ?_
      | refine T_ialdN (pc1 := 9) (pc := 8) k_M_textTold_8 rfl (by first | exact ga G (by decide) rfl | assumption) (by omega) (by omega) (by first | assumption | (simp (disch := omega) only [pI_eq, pI_row, pI_col, va_up_self, va_up_ne, ne_eq, not_false_eq_true, hN, h6] <;> rfl) | rfl) ?_
      | refine T_iald (pc1 := 9) (pc := 8) k_M_textTold_8 rfl (by first | exact ga G (by decide) rfl | assumption) (by assumption) ?_
      | refine T_iconst (v := (nI 1)) (pc1 := 10) (pc := 9) k_M_textTold_9 rfl (by decide) ?_
      | refine T_isub (pc1 := 11) (pc := 10) k_M_textTold_10 rfl ?_
      | (refine T_cS (As := [_, _, _]) (d1 := 1) (pc1 := 14) (pc := 11) k_M_textTold_11 rfl (by decide) (Nat.le_of_ble_eq_true rfl) rfl o_M_within l_M_95 rfl (c_M_within (fun hw => ?_) (fun hw => ?_)) <;> try dsimp only [psh])
      | (with_reducible refine T_if_eqN (tgt := 44) (pc1 := 17) (pc := 14) k_M_textTold_14 (by decide) (by decide) (by omega) (fun hc => ?_) (fun hc => ?_) <;> first | (exfalso; omega) | skip)
      | refine T_if_eq_t (tgt := 44) (pc := 14) k_M_textTold_14 rfl (by decide) ?_
      | refine T_if_eq_f (tgt := 44) (pc1 := 17) (pc := 14) k_M_textTold_14 rfl rfl (by decide) ?_
      | refine T_if_eq (tgt := 44) (pc1 := 17) (pc := 14) k_M_textTold_14 rfl rfl (fun hc => ?_) (fun hc => ?_)
      | refine T_iload_n (pc1 := 18) (pc := 17) k_M_textTold_17 rfl rfl ?_
      | refine T_iconst (v := (nI 0)) (pc1 := 19) (pc := 18) k_M_textTold_18 rfl (by decide) ?_
      | refine T_iconst (v := (nI 1)) (pc1 := 20) (pc := 19) k_M_textTold_19 rfl (by decide) ?_
      | (refine T_cS (As := [_, _, _]) (d1 := 1) (pc1 := 23) (pc := 20) k_M_textTold_20 rfl (by decide) (Nat.le_of_ble_eq_true rfl) rfl o_M_within l_M_95 rfl (c_M_within (fun hw => ?_) (fun hw => ?_)) <;> try dsimp only [psh])
      | (with_reducible refine T_if_eqN (tgt := 44) (pc1 := 26) (pc := 23) k_M_textTold_23 (by decide) (by decide) (by omega) (fun hc => ?_) (fun hc => ?_) <;> first | (exfalso; omega) | skip)
      | refine T_if_eq_t (tgt := 44) (pc := 23) k_M_textTold_23 rfl (by decide) ?_
      | refine T_if_eq_f (tgt := 44) (pc1 := 26) (pc := 23) k_M_textTold_23 rfl rfl (by decide) ?_
      | refine T_if_eq (tgt := 44) (pc1 := 26) (pc := 23) k_M_textTold_23 rfl rfl (fun hc => ?_) (fun hc => ?_)
      | refine T_getR (pc1 := 30) (pc := 27) k_M_textTold_27 rfl f_M_9 rfl (by first | exact ga G (by decide) rfl | assumption) (by first | exact gr G (by decide) rfl | assumption) ?_
      | refine T_sipush (v := (nI 156)) (pc1 := 33) (pc := 30) k_M_textTold_30 rfl (by decide) ?_
      | refine T_bipush (v := (nI 100)) (pc1 := 35) (pc := 33) k_M_textTold_33 rfl (by decide) ?_
      | refine T_iload_n (pc1 := 36) (pc := 35) k_M_textTold_35 rfl rfl ?_
      | with_reducible refine T_imulN (pc1 := 37) (pc := 36) k_M_textTold_36 (by decide) ?_
      | refine T_imul (pc1 := 37) (pc := 36) k_M_textTold_36 rfl ?_
      | with_reducible refine T_iaddN (pc1 := 38) (pc := 37) k_M_textTold_37 (by decide) ?_
      | refine T_iadd (pc1 := 38) (pc := 37) k_M_textTold_37 rfl ?_
      | refine T_iload_n (pc1 := 39) (pc := 38) k_M_textTold_38 rfl rfl ?_
      | with_reducible refine T_iaddN (pc1 := 40) (pc := 39) k_M_textTold_39 (by decide) ?_
      | refine T_iadd (pc1 := 40) (pc := 39) k_M_textTold_39 rfl ?_
      | refine T_ialdN (pc1 := 41) (pc := 40) k_M_textTold_40 rfl (by first | exact ga G (by decide) rfl | assumption) (by omega) (by omega) (by first | assumption | (simp (disch := omega) only [pI_eq, pI_row, pI_col, va_up_self, va_up_ne, ne_eq, not_false_eq_true, hN, h6] <;> rfl) | rfl) ?_
      | refine T_iald (pc1 := 41) (pc := 40) k_M_textTold_40 rfl (by first | exact ga G (by decide) rfl | assumption) (by assumption) ?_
      | refine T_goto (tgt := 46) (pc := 41) k_M_textTold_41 rfl ?_
      | refine T_ldc (v := (-1000000001)) (pc1 := 46) (pc := 44) k_M_textTold_44 rfl c_M_111 ?_
      | refine T_retI (pc := 46) k_M_textTold_46 rfl (by first | rfl | decide | assumption) ?_)
    all_goals first | exact kk _ rfl | (exfalso; apply h; refine ⟨⟨?_, ?_⟩, ?_, ?_⟩ <;> omega)
theorem c_M_why {N : Row} {n tn : Nat} {k : Int32} (G : GeoOK g) (hN : I 102 = N) (ok : okL N n tn) (kk : ∀ r, r = whyA N tn k → K (some (.int r)) g I) : Cl 2 M_M_why [.ref 101, .int k] g I K := by
  show Rl 2 M_M_why 0 [some (.ref 101), some (.int k), none] [] g I K
  obtain ⟨h5, hn, h6, h14, -⟩ := id ok
  have e0 : (nI 0).toInt = 0 := rfl
  have e2 : (nI 2).toInt = 2 := rfl
  unfold whyA at kk
  by_cases h : rg 3 k
  · rw [if_pos h] at kk
    obtain ⟨q, hq, rfl⟩ := rg_of h (by omega)
    rw [nI_clamp (by omega)] at kk
    cases htx : txt N q tn with
    | none =>
      have hv : opt1 (txt N q tn) = -1 := by rw [htx]; rfl
      rw [htx] at kk
      repeat' (first
        | refine T_iload_n (pc1 := 1) (pc := 0) k_M_why_0 rfl rfl ?_
        | refine T_iconst (v := (nI 0)) (pc1 := 2) (pc := 1) k_M_why_1 rfl (by decide) ?_
        | refine T_iconst (v := (nI 2)) (pc1 := 3) (pc := 2) k_M_why_2 rfl (by decide) ?_
        | (refine T_cS (As := [_, _, _]) (d1 := 1) (pc1 := 6) (pc := 3) k_M_why_3 rfl (by decide) (Nat.le_of_ble_eq_true rfl) rfl o_M_within l_M_95 rfl (c_M_within (fun hw => ?_) (fun hw => ?_)) <;> try dsimp only [psh])
        | (with_reducible refine T_if_neN (tgt := 12) (pc1 := 9) (pc := 6) k_M_why_6 (by decide) (by decide) (by omega) (fun hc => ?_) (fun hc => ?_) <;> first | (exfalso; omega) | skip)
        | refine T_if_ne_t (tgt := 12) (pc := 6) k_M_why_6 rfl (by decide) ?_
        | refine T_if_ne_f (tgt := 12) (pc1 := 9) (pc := 6) k_M_why_6 rfl rfl (by decide) ?_
        | refine T_if_ne (tgt := 12) (pc1 := 9) (pc := 6) k_M_why_6 rfl rfl (fun hc => ?_) (fun hc => ?_)
        | refine T_ldc (v := (-1000000001)) (pc1 := 11) (pc := 9) k_M_why_9 rfl c_M_111 ?_
        | refine T_retI (pc := 11) k_M_why_11 rfl (by first | rfl | decide | assumption) ?_
        | refine T_aload_n (pc1 := 13) (pc := 12) k_M_why_12 rfl rfl ?_
        | refine T_aload_nN (pc1 := 13) (pc := 12) k_M_why_12 rfl rfl ?_
        | refine T_iload_n (pc1 := 14) (pc := 13) k_M_why_13 rfl rfl ?_
        | (refine T_cV (As := [_]) (d1 := 1) (pc1 := 17) (pc := 14) k_M_why_14 rfl (by decide) (Nat.le_of_ble_eq_true rfl) rfl o_M_counting l_M_121 rfl (by first | exact ga G (by decide) rfl | assumption) rfl (c_M_counting G (by assumption) (by assumption) (by assumption) (by assumption) ?_) <;> try dsimp only [psh])
        | refine T_istore_n (pc1 := 18) (pc := 17) k_M_why_17 rfl (Nat.le_of_ble_eq_true rfl) ?_
        | refine T_iload_n (pc1 := 19) (pc := 18) k_M_why_18 rfl rfl ?_
        | (with_reducible refine T_if_geN (tgt := 27) (pc1 := 22) (pc := 19) k_M_why_19 (by decide) (by decide) (by omega) ?_ <;> first | (exfalso; omega) | skip)
        | refine T_if_ge_t (tgt := 27) (pc := 19) k_M_why_19 rfl (by decide) ?_
        | refine T_if_ge_f (tgt := 27) (pc1 := 22) (pc := 19) k_M_why_19 rfl rfl (by decide) ?_
        | refine T_if_ge (tgt := 27) (pc1 := 22) (pc := 19) k_M_why_19 rfl rfl (fun hc => ?_) (fun hc => ?_)
        | refine T_ldc (v := (-1000000005)) (pc1 := 24) (pc := 22) k_M_why_22 rfl c_M_103 ?_
        | refine T_goto (tgt := 28) (pc := 24) k_M_why_24 rfl ?_
        | refine T_iload_n (pc1 := 28) (pc := 27) k_M_why_27 rfl rfl ?_
        | refine T_retI (pc := 28) k_M_why_28 rfl (by first | rfl | decide | assumption) ?_)
      all_goals first | exact kk _ rfl | (exfalso; have := h.1; have := h.2; apply hw; constructor <;> omega)
    | some t =>
      have hv : opt1 (txt N q tn) = nI t := by rw [htx]; rfl
      have htl := (txt_lt htx).1
      rw [htx] at kk
      repeat' (first
        | refine T_iload_n (pc1 := 1) (pc := 0) k_M_why_0 rfl rfl ?_
        | refine T_iconst (v := (nI 0)) (pc1 := 2) (pc := 1) k_M_why_1 rfl (by decide) ?_
        | refine T_iconst (v := (nI 2)) (pc1 := 3) (pc := 2) k_M_why_2 rfl (by decide) ?_
        | (refine T_cS (As := [_, _, _]) (d1 := 1) (pc1 := 6) (pc := 3) k_M_why_3 rfl (by decide) (Nat.le_of_ble_eq_true rfl) rfl o_M_within l_M_95 rfl (c_M_within (fun hw => ?_) (fun hw => ?_)) <;> try dsimp only [psh])
        | (with_reducible refine T_if_neN (tgt := 12) (pc1 := 9) (pc := 6) k_M_why_6 (by decide) (by decide) (by omega) (fun hc => ?_) (fun hc => ?_) <;> first | (exfalso; omega) | skip)
        | refine T_if_ne_t (tgt := 12) (pc := 6) k_M_why_6 rfl (by decide) ?_
        | refine T_if_ne_f (tgt := 12) (pc1 := 9) (pc := 6) k_M_why_6 rfl rfl (by decide) ?_
        | refine T_if_ne (tgt := 12) (pc1 := 9) (pc := 6) k_M_why_6 rfl rfl (fun hc => ?_) (fun hc => ?_)
        | refine T_ldc (v := (-1000000001)) (pc1 := 11) (pc := 9) k_M_why_9 rfl c_M_111 ?_
        | refine T_retI (pc := 11) k_M_why_11 rfl (by first | rfl | decide | assumption) ?_
        | refine T_aload_n (pc1 := 13) (pc := 12) k_M_why_12 rfl rfl ?_
        | refine T_aload_nN (pc1 := 13) (pc := 12) k_M_why_12 rfl rfl ?_
        | refine T_iload_n (pc1 := 14) (pc := 13) k_M_why_13 rfl rfl ?_
        | (refine T_cV (As := [_]) (d1 := 1) (pc1 := 17) (pc := 14) k_M_why_14 rfl (by decide) (Nat.le_of_ble_eq_true rfl) rfl o_M_counting l_M_121 rfl (by first | exact ga G (by decide) rfl | assumption) rfl (c_M_counting G (by assumption) (by assumption) (by assumption) (by assumption) ?_) <;> try dsimp only [psh])
        | refine T_istore_n (pc1 := 18) (pc := 17) k_M_why_17 rfl (Nat.le_of_ble_eq_true rfl) ?_
        | refine T_iload_n (pc1 := 19) (pc := 18) k_M_why_18 rfl rfl ?_
        | (with_reducible refine T_if_geN (tgt := 27) (pc1 := 22) (pc := 19) k_M_why_19 (by decide) (by decide) (by omega) ?_ <;> first | (exfalso; omega) | skip)
        | refine T_if_ge_t (tgt := 27) (pc := 19) k_M_why_19 rfl (by decide) ?_
        | refine T_if_ge_f (tgt := 27) (pc1 := 22) (pc := 19) k_M_why_19 rfl rfl (by decide) ?_
        | refine T_if_ge (tgt := 27) (pc1 := 22) (pc := 19) k_M_why_19 rfl rfl (fun hc => ?_) (fun hc => ?_)
        | refine T_ldc (v := (-1000000005)) (pc1 := 24) (pc := 22) k_M_why_22 rfl c_M_103 ?_
        | refine T_goto (tgt := 28) (pc := 24) k_M_why_24 rfl ?_
        | refine T_iload_n (pc1 := 28) (pc := 27) k_M_why_27 rfl rfl ?_
        | refine T_retI (pc := 28) k_M_why_28 rfl (by first | rfl | decide | assumption) ?_)
      all_goals first | exact kk _ rfl | (exfalso; have := h.1; have := h.2; apply hw; constructor <;> omega)
  · rw [if_neg h] at kk
    repeat' (first
      | refine T_iload_n (pc1 := 1) (pc := 0) k_M_why_0 rfl rfl ?_
      | refine T_iconst (v := (nI 0)) (pc1 := 2) (pc := 1) k_M_why_1 rfl (by decide) ?_
      | refine T_iconst (v := (nI 2)) (pc1 := 3) (pc := 2) k_M_why_2 rfl (by decide) ?_
      | (refine T_cS (As := [_, _, _]) (d1 := 1) (pc1 := 6) (pc := 3) k_M_why_3 rfl (by decide) (Nat.le_of_ble_eq_true rfl) rfl o_M_within l_M_95 rfl (c_M_within (fun hw => ?_) (fun hw => ?_)) <;> try dsimp only [psh])
      | (with_reducible refine T_if_neN (tgt := 12) (pc1 := 9) (pc := 6) k_M_why_6 (by decide) (by decide) (by omega) (fun hc => ?_) (fun hc => ?_) <;> first | (exfalso; omega) | skip)
      | refine T_if_ne_t (tgt := 12) (pc := 6) k_M_why_6 rfl (by decide) ?_
      | refine T_if_ne_f (tgt := 12) (pc1 := 9) (pc := 6) k_M_why_6 rfl rfl (by decide) ?_
      | refine T_if_ne (tgt := 12) (pc1 := 9) (pc := 6) k_M_why_6 rfl rfl (fun hc => ?_) (fun hc => ?_)
      | refine T_ldc (v := (-1000000001)) (pc1 := 11) (pc := 9) k_M_why_9 rfl c_M_111 ?_
      | refine T_retI (pc := 11) k_M_why_11 rfl (by first | rfl | decide | assumption) ?_)
    all_goals first | exact kk _ rfl | (exfalso; apply h; constructor <;> omega)
set_option maxHeartbeats 4000000 in
theorem c_M_sheet {So Si Pl : Row} {s so n : Int32} (G : GeoOK g) (hSo : I 114 = So) (hSi : I 115 = Si) (hPl : I 116 = Pl) (kk : ∀ J r, eqx [114, 115, 116] I J → (okSheet s so n → J 114 = va_up So s.toNatClampNeg so ∧ J 115 = va_up Si s.toNatClampNeg (sheetV so n) ∧ J 116 = zer Pl (24 * s.toNatClampNeg) 24) → (¬ okSheet s so n → J = I) → r = sheetA s so n → K (some (.int r)) g J) : Cl 3 M_M_sheet [.ref 101, .int s, .int so, .int n] g I K := by
  show Rl 3 M_M_sheet 0 [some (.ref 101), some (.int s), some (.int so), some (.int n), none] [] g I K
  have e0 : (0 : Int32).toInt = 0 := rfl
  have e1 : (nI 1).toInt = 1 := rfl
  have em : (-1 : Int32).toInt = -1 := rfl
  have e24 : (nI 24).toInt = 24 := rfl
  by_cases hok : okSheet s so n
  · obtain ⟨j, hj, rfl⟩ := rg_of hok.1 (by omega)
    rw [nI_clamp (by omega)] at kk
    rw [sheetA, if_pos hok] at kk
    have loop : ∀ q k (J : IM), k + q = 24 → eqx [114, 115, 116] I J → J 114 = va_up So j so → J 115 = va_up Si j (sheetV so n) → J 116 = zer Pl (24 * j) k → Rl 3 M_M_sheet 66 [some (.ref 101), some (.int (nI j)), some (.int so), some (.int n), some (.int (nI k))] [] g J K := by
      intro q
      induction q with
      | zero =>
        intro k J hk hJ h1 h2 h3
        have hk : k = 24 := by omega
        subst hk
        have e : J 115 j = sheetV so n := by rw [h2, va_up_self]
        repeat' (first
          | refine T_iload_n (pc1 := 1) (pc := 0) k_M_sheet_0 rfl rfl ?_
          | (refine T_cS (As := [_]) (d1 := 2) (pc1 := 4) (pc := 1) k_M_sheet_1 rfl (by decide) (Nat.le_of_ble_eq_true rfl) rfl o_M_isSheet l_M_193 rfl (c_M_isSheet (fun hw => ?_) (fun hw => ?_)) <;> try dsimp only [psh])
          | (with_reducible refine T_if_eqN (tgt := 26) (pc1 := 7) (pc := 4) k_M_sheet_4 (by decide) (by decide) (by omega) (fun hc => ?_) (fun hc => ?_) <;> first | (exfalso; omega) | skip)
          | refine T_if_eq_t (tgt := 26) (pc := 4) k_M_sheet_4 rfl (by decide) ?_
          | refine T_if_eq_f (tgt := 26) (pc1 := 7) (pc := 4) k_M_sheet_4 rfl rfl (by decide) ?_
          | refine T_if_eq (tgt := 26) (pc1 := 7) (pc := 4) k_M_sheet_4 rfl rfl (fun hc => ?_) (fun hc => ?_)
          | refine T_iload_n (pc1 := 8) (pc := 7) k_M_sheet_7 rfl rfl ?_
          | refine T_iconst (v := (-1)) (pc1 := 9) (pc := 8) k_M_sheet_8 rfl (by decide) ?_
          | refine T_iconst (v := (nI 1)) (pc1 := 10) (pc := 9) k_M_sheet_9 rfl (by decide) ?_
          | (refine T_cS (As := [_, _, _]) (d1 := 1) (pc1 := 13) (pc := 10) k_M_sheet_10 rfl (by decide) (Nat.le_of_ble_eq_true rfl) rfl o_M_within l_M_95 rfl (c_M_within (fun hw => ?_) (fun hw => ?_)) <;> try dsimp only [psh])
          | (with_reducible refine T_if_eqN (tgt := 26) (pc1 := 16) (pc := 13) k_M_sheet_13 (by decide) (by decide) (by omega) (fun hc => ?_) (fun hc => ?_) <;> first | (exfalso; omega) | skip)
          | refine T_if_eq_t (tgt := 26) (pc := 13) k_M_sheet_13 rfl (by decide) ?_
          | refine T_if_eq_f (tgt := 26) (pc1 := 16) (pc := 13) k_M_sheet_13 rfl rfl (by decide) ?_
          | refine T_if_eq (tgt := 26) (pc1 := 16) (pc := 13) k_M_sheet_13 rfl rfl (fun hc => ?_) (fun hc => ?_)
          | refine T_iload_n (pc1 := 17) (pc := 16) k_M_sheet_16 rfl rfl ?_
          | (with_reducible refine T_if_ltN (tgt := 29) (pc1 := 20) (pc := 17) k_M_sheet_17 (by decide) (by decide) (by omega) ?_ <;> first | (exfalso; omega) | skip)
          | refine T_if_lt_t (tgt := 29) (pc := 17) k_M_sheet_17 rfl (by decide) ?_
          | refine T_if_lt_f (tgt := 29) (pc1 := 20) (pc := 17) k_M_sheet_17 rfl rfl (by decide) ?_
          | refine T_if_lt (tgt := 29) (pc1 := 20) (pc := 17) k_M_sheet_17 rfl rfl (fun hc => ?_) (fun hc => ?_)
          | refine T_iload_n (pc1 := 21) (pc := 20) k_M_sheet_20 rfl rfl ?_
          | refine T_bipush (v := (nI 24)) (pc1 := 23) (pc := 21) k_M_sheet_21 rfl (by decide) ?_
          | (with_reducible refine T_icmp_leN (tgt := 29) (pc1 := 26) (pc := 23) k_M_sheet_23 (by decide) (by decide) (by omega) (by omega) (fun hc => ?_) (fun hc => ?_) <;> first | (exfalso; omega) | skip)
          | refine T_icmp_le_t (tgt := 29) (pc := 23) k_M_sheet_23 rfl (by decide) ?_
          | refine T_icmp_le_f (tgt := 29) (pc1 := 26) (pc := 23) k_M_sheet_23 rfl rfl (by decide) ?_
          | refine T_icmp_le (tgt := 29) (pc1 := 26) (pc := 23) k_M_sheet_23 rfl rfl (fun hc => ?_) (fun hc => ?_)
          | refine T_ldc (v := (-1000000001)) (pc1 := 28) (pc := 26) k_M_sheet_26 rfl c_M_111 ?_
          | refine T_retI (pc := 28) k_M_sheet_28 rfl (by first | rfl | decide | assumption) ?_
          | refine T_iload_n (pc1 := 30) (pc := 29) k_M_sheet_29 rfl rfl ?_
          | (with_reducible refine T_if_ltN (tgt := 41) (pc1 := 33) (pc := 30) k_M_sheet_30 (by decide) (by decide) (by omega) ?_ <;> first | (exfalso; omega) | skip)
          | refine T_if_lt_t (tgt := 41) (pc := 30) k_M_sheet_30 rfl (by decide) ?_
          | refine T_if_lt_f (tgt := 41) (pc1 := 33) (pc := 30) k_M_sheet_30 rfl rfl (by decide) ?_
          | refine T_if_lt (tgt := 41) (pc1 := 33) (pc := 30) k_M_sheet_30 rfl rfl (fun hc => ?_) (fun hc => ?_)
          | refine T_iload_n (pc1 := 34) (pc := 33) k_M_sheet_33 rfl rfl ?_
          | (with_reducible refine T_if_geN (tgt := 41) (pc1 := 37) (pc := 34) k_M_sheet_34 (by decide) (by decide) (by omega) ?_ <;> first | (exfalso; omega) | skip)
          | refine T_if_ge_t (tgt := 41) (pc := 34) k_M_sheet_34 rfl (by decide) ?_
          | refine T_if_ge_f (tgt := 41) (pc1 := 37) (pc := 34) k_M_sheet_34 rfl rfl (by decide) ?_
          | refine T_if_ge (tgt := 41) (pc1 := 37) (pc := 34) k_M_sheet_34 rfl rfl (fun hc => ?_) (fun hc => ?_)
          | refine T_ldcw (v := (-1000000014)) (pc1 := 40) (pc := 37) k_M_sheet_37 rfl c_M_296 ?_
          | refine T_retI (pc := 40) k_M_sheet_40 rfl (by first | rfl | decide | assumption) ?_
          | refine T_aload_n (pc1 := 42) (pc := 41) k_M_sheet_41 rfl rfl ?_
          | refine T_aload_nN (pc1 := 42) (pc := 41) k_M_sheet_41 rfl rfl ?_
          | refine T_getR (pc1 := 45) (pc := 42) k_M_sheet_42 rfl f_M_61 rfl (by first | exact ga G (by decide) rfl | assumption) (by first | exact gr G (by decide) rfl | assumption) ?_
          | refine T_iload_n (pc1 := 46) (pc := 45) k_M_sheet_45 rfl rfl ?_
          | refine T_iload_n (pc1 := 47) (pc := 46) k_M_sheet_46 rfl rfl ?_
          | refine T_iastN (pc1 := 48) (pc := 47) k_M_sheet_47 rfl (by first | exact ga G (by decide) rfl | assumption) (by omega) (by omega) ?_
          | refine T_aload_n (pc1 := 49) (pc := 48) k_M_sheet_48 rfl rfl ?_
          | refine T_aload_nN (pc1 := 49) (pc := 48) k_M_sheet_48 rfl rfl ?_
          | refine T_getR (pc1 := 52) (pc := 49) k_M_sheet_49 rfl f_M_64 rfl (by first | exact ga G (by decide) rfl | assumption) (by first | exact gr G (by decide) rfl | assumption) ?_
          | refine T_iload_n (pc1 := 53) (pc := 52) k_M_sheet_52 rfl rfl ?_
          | refine T_iload_n (pc1 := 54) (pc := 53) k_M_sheet_53 rfl rfl ?_
          | (with_reducible refine T_if_geN (tgt := 61) (pc1 := 57) (pc := 54) k_M_sheet_54 (by decide) (by decide) (by omega) ?_ <;> first | (exfalso; omega) | skip)
          | refine T_if_ge_t (tgt := 61) (pc := 54) k_M_sheet_54 rfl (by decide) ?_
          | refine T_if_ge_f (tgt := 61) (pc1 := 57) (pc := 54) k_M_sheet_54 rfl rfl (by decide) ?_
          | refine T_if_ge (tgt := 61) (pc1 := 57) (pc := 54) k_M_sheet_54 rfl rfl (fun hc => ?_) (fun hc => ?_)
          | refine T_iconst (v := (nI 0)) (pc1 := 58) (pc := 57) k_M_sheet_57 rfl (by decide) ?_
          | refine T_goto (tgt := 62) (pc := 58) k_M_sheet_58 rfl ?_
          | refine T_iload_n (pc1 := 62) (pc := 61) k_M_sheet_61 rfl rfl ?_
          | refine T_iastN (pc1 := 63) (pc := 62) k_M_sheet_62 rfl (by first | exact ga G (by decide) rfl | assumption) (by omega) (by omega) ?_
          | refine T_iconst (v := (nI 0)) (pc1 := 64) (pc := 63) k_M_sheet_63 rfl (by decide) ?_
          | refine T_istore (pc1 := 66) (pc := 64) k_M_sheet_64 rfl (Nat.le_of_ble_eq_true rfl) ?_
          | refine T_iload (pc1 := 68) (pc := 66) k_M_sheet_66 rfl rfl ?_
          | refine T_bipush (v := (nI 24)) (pc1 := 70) (pc := 68) k_M_sheet_68 rfl (by decide) ?_
          | (with_reducible refine T_icmp_geN (tgt := 92) (pc1 := 73) (pc := 70) k_M_sheet_70 (by decide) (by decide) (by omega) (by omega) (fun hc => ?_) (fun hc => ?_) <;> first | (exfalso; omega) | skip)
          | refine T_icmp_ge_t (tgt := 92) (pc := 70) k_M_sheet_70 rfl (by decide) ?_
          | refine T_icmp_ge_f (tgt := 92) (pc1 := 73) (pc := 70) k_M_sheet_70 rfl rfl (by decide) ?_
          | refine T_icmp_ge (tgt := 92) (pc1 := 73) (pc := 70) k_M_sheet_70 rfl rfl (fun hc => ?_) (fun hc => ?_)
          | refine T_aload_n (pc1 := 74) (pc := 73) k_M_sheet_73 rfl rfl ?_
          | refine T_aload_nN (pc1 := 74) (pc := 73) k_M_sheet_73 rfl rfl ?_
          | refine T_getR (pc1 := 77) (pc := 74) k_M_sheet_74 rfl f_M_67 rfl (by first | exact ga G (by decide) rfl | assumption) (by first | exact gr G (by decide) rfl | assumption) ?_
          | refine T_bipush (v := (nI 24)) (pc1 := 79) (pc := 77) k_M_sheet_77 rfl (by decide) ?_
          | refine T_iload_n (pc1 := 80) (pc := 79) k_M_sheet_79 rfl rfl ?_
          | with_reducible refine T_imulN (pc1 := 81) (pc := 80) k_M_sheet_80 (by decide) ?_
          | refine T_imul (pc1 := 81) (pc := 80) k_M_sheet_80 rfl ?_
          | refine T_iload (pc1 := 83) (pc := 81) k_M_sheet_81 rfl rfl ?_
          | with_reducible refine T_iaddN (pc1 := 84) (pc := 83) k_M_sheet_83 (by decide) ?_
          | refine T_iadd (pc1 := 84) (pc := 83) k_M_sheet_83 rfl ?_
          | refine T_iconst (v := (nI 0)) (pc1 := 85) (pc := 84) k_M_sheet_84 rfl (by decide) ?_
          | refine T_iastN (pc1 := 86) (pc := 85) k_M_sheet_85 rfl (by first | exact ga G (by decide) rfl | assumption) (by omega) (by omega) ?_
          | refine T_iincN (b := 1) (pc1 := 89) (pc := 86) k_M_sheet_86 rfl rfl (by decide) ?_
          | refine T_iinc (v := (nI 1)) (pc1 := 89) (pc := 86) k_M_sheet_86 rfl rfl (by decide) ?_
          | refine T_goto (tgt := 66) (pc := 89) k_M_sheet_89 rfl ?_
          | refine T_aload_n (pc1 := 93) (pc := 92) k_M_sheet_92 rfl rfl ?_
          | refine T_aload_nN (pc1 := 93) (pc := 92) k_M_sheet_92 rfl rfl ?_
          | refine T_getR (pc1 := 96) (pc := 93) k_M_sheet_93 rfl f_M_64 rfl (by first | exact ga G (by decide) rfl | assumption) (by first | exact gr G (by decide) rfl | assumption) ?_
          | refine T_iload_n (pc1 := 97) (pc := 96) k_M_sheet_96 rfl rfl ?_
          | refine T_ialdN (pc1 := 98) (pc := 97) k_M_sheet_97 rfl (by first | exact ga G (by decide) rfl | assumption) (by omega) (by omega) (by first | assumption | (simp (disch := omega) only [pI_eq, pI_row, pI_col, va_up_self, va_up_ne, ne_eq, not_false_eq_true] <;> rfl) | rfl) ?_
          | refine T_iald (pc1 := 98) (pc := 97) k_M_sheet_97 rfl (by first | exact ga G (by decide) rfl | assumption) (by assumption) ?_
          | refine T_retI (pc := 98) k_M_sheet_98 rfl (by first | rfl | decide | assumption) ?_)
        exact kk J _ hJ (fun _ => ⟨h1, h2, h3⟩) (fun q => absurd hok q) rfl
      | succ q ih =>
        intro k J hk hJ h1 h2 h3
        refine T_iload (pc1 := 68) (pc := 66) k_M_sheet_66 rfl rfl ?_
        repeat' (first
          | refine T_iload_n (pc1 := 1) (pc := 0) k_M_sheet_0 rfl rfl ?_
          | (refine T_cS (As := [_]) (d1 := 2) (pc1 := 4) (pc := 1) k_M_sheet_1 rfl (by decide) (Nat.le_of_ble_eq_true rfl) rfl o_M_isSheet l_M_193 rfl (c_M_isSheet (fun hw => ?_) (fun hw => ?_)) <;> try dsimp only [psh])
          | (with_reducible refine T_if_eqN (tgt := 26) (pc1 := 7) (pc := 4) k_M_sheet_4 (by decide) (by decide) (by omega) (fun hc => ?_) (fun hc => ?_) <;> first | (exfalso; omega) | skip)
          | refine T_if_eq_t (tgt := 26) (pc := 4) k_M_sheet_4 rfl (by decide) ?_
          | refine T_if_eq_f (tgt := 26) (pc1 := 7) (pc := 4) k_M_sheet_4 rfl rfl (by decide) ?_
          | refine T_if_eq (tgt := 26) (pc1 := 7) (pc := 4) k_M_sheet_4 rfl rfl (fun hc => ?_) (fun hc => ?_)
          | refine T_iload_n (pc1 := 8) (pc := 7) k_M_sheet_7 rfl rfl ?_
          | refine T_iconst (v := (-1)) (pc1 := 9) (pc := 8) k_M_sheet_8 rfl (by decide) ?_
          | refine T_iconst (v := (nI 1)) (pc1 := 10) (pc := 9) k_M_sheet_9 rfl (by decide) ?_
          | (refine T_cS (As := [_, _, _]) (d1 := 1) (pc1 := 13) (pc := 10) k_M_sheet_10 rfl (by decide) (Nat.le_of_ble_eq_true rfl) rfl o_M_within l_M_95 rfl (c_M_within (fun hw => ?_) (fun hw => ?_)) <;> try dsimp only [psh])
          | (with_reducible refine T_if_eqN (tgt := 26) (pc1 := 16) (pc := 13) k_M_sheet_13 (by decide) (by decide) (by omega) (fun hc => ?_) (fun hc => ?_) <;> first | (exfalso; omega) | skip)
          | refine T_if_eq_t (tgt := 26) (pc := 13) k_M_sheet_13 rfl (by decide) ?_
          | refine T_if_eq_f (tgt := 26) (pc1 := 16) (pc := 13) k_M_sheet_13 rfl rfl (by decide) ?_
          | refine T_if_eq (tgt := 26) (pc1 := 16) (pc := 13) k_M_sheet_13 rfl rfl (fun hc => ?_) (fun hc => ?_)
          | refine T_iload_n (pc1 := 17) (pc := 16) k_M_sheet_16 rfl rfl ?_
          | (with_reducible refine T_if_ltN (tgt := 29) (pc1 := 20) (pc := 17) k_M_sheet_17 (by decide) (by decide) (by omega) ?_ <;> first | (exfalso; omega) | skip)
          | refine T_if_lt_t (tgt := 29) (pc := 17) k_M_sheet_17 rfl (by decide) ?_
          | refine T_if_lt_f (tgt := 29) (pc1 := 20) (pc := 17) k_M_sheet_17 rfl rfl (by decide) ?_
          | refine T_if_lt (tgt := 29) (pc1 := 20) (pc := 17) k_M_sheet_17 rfl rfl (fun hc => ?_) (fun hc => ?_)
          | refine T_iload_n (pc1 := 21) (pc := 20) k_M_sheet_20 rfl rfl ?_
          | refine T_bipush (v := (nI 24)) (pc1 := 23) (pc := 21) k_M_sheet_21 rfl (by decide) ?_
          | (with_reducible refine T_icmp_leN (tgt := 29) (pc1 := 26) (pc := 23) k_M_sheet_23 (by decide) (by decide) (by omega) (by omega) (fun hc => ?_) (fun hc => ?_) <;> first | (exfalso; omega) | skip)
          | refine T_icmp_le_t (tgt := 29) (pc := 23) k_M_sheet_23 rfl (by decide) ?_
          | refine T_icmp_le_f (tgt := 29) (pc1 := 26) (pc := 23) k_M_sheet_23 rfl rfl (by decide) ?_
          | refine T_icmp_le (tgt := 29) (pc1 := 26) (pc := 23) k_M_sheet_23 rfl rfl (fun hc => ?_) (fun hc => ?_)
          | refine T_ldc (v := (-1000000001)) (pc1 := 28) (pc := 26) k_M_sheet_26 rfl c_M_111 ?_
          | refine T_retI (pc := 28) k_M_sheet_28 rfl (by first | rfl | decide | assumption) ?_
          | refine T_iload_n (pc1 := 30) (pc := 29) k_M_sheet_29 rfl rfl ?_
          | (with_reducible refine T_if_ltN (tgt := 41) (pc1 := 33) (pc := 30) k_M_sheet_30 (by decide) (by decide) (by omega) ?_ <;> first | (exfalso; omega) | skip)
          | refine T_if_lt_t (tgt := 41) (pc := 30) k_M_sheet_30 rfl (by decide) ?_
          | refine T_if_lt_f (tgt := 41) (pc1 := 33) (pc := 30) k_M_sheet_30 rfl rfl (by decide) ?_
          | refine T_if_lt (tgt := 41) (pc1 := 33) (pc := 30) k_M_sheet_30 rfl rfl (fun hc => ?_) (fun hc => ?_)
          | refine T_iload_n (pc1 := 34) (pc := 33) k_M_sheet_33 rfl rfl ?_
          | (with_reducible refine T_if_geN (tgt := 41) (pc1 := 37) (pc := 34) k_M_sheet_34 (by decide) (by decide) (by omega) ?_ <;> first | (exfalso; omega) | skip)
          | refine T_if_ge_t (tgt := 41) (pc := 34) k_M_sheet_34 rfl (by decide) ?_
          | refine T_if_ge_f (tgt := 41) (pc1 := 37) (pc := 34) k_M_sheet_34 rfl rfl (by decide) ?_
          | refine T_if_ge (tgt := 41) (pc1 := 37) (pc := 34) k_M_sheet_34 rfl rfl (fun hc => ?_) (fun hc => ?_)
          | refine T_ldcw (v := (-1000000014)) (pc1 := 40) (pc := 37) k_M_sheet_37 rfl c_M_296 ?_
          | refine T_retI (pc := 40) k_M_sheet_40 rfl (by first | rfl | decide | assumption) ?_
          | refine T_aload_n (pc1 := 42) (pc := 41) k_M_sheet_41 rfl rfl ?_
          | refine T_aload_nN (pc1 := 42) (pc := 41) k_M_sheet_41 rfl rfl ?_
          | refine T_getR (pc1 := 45) (pc := 42) k_M_sheet_42 rfl f_M_61 rfl (by first | exact ga G (by decide) rfl | assumption) (by first | exact gr G (by decide) rfl | assumption) ?_
          | refine T_iload_n (pc1 := 46) (pc := 45) k_M_sheet_45 rfl rfl ?_
          | refine T_iload_n (pc1 := 47) (pc := 46) k_M_sheet_46 rfl rfl ?_
          | refine T_iastN (pc1 := 48) (pc := 47) k_M_sheet_47 rfl (by first | exact ga G (by decide) rfl | assumption) (by omega) (by omega) ?_
          | refine T_aload_n (pc1 := 49) (pc := 48) k_M_sheet_48 rfl rfl ?_
          | refine T_aload_nN (pc1 := 49) (pc := 48) k_M_sheet_48 rfl rfl ?_
          | refine T_getR (pc1 := 52) (pc := 49) k_M_sheet_49 rfl f_M_64 rfl (by first | exact ga G (by decide) rfl | assumption) (by first | exact gr G (by decide) rfl | assumption) ?_
          | refine T_iload_n (pc1 := 53) (pc := 52) k_M_sheet_52 rfl rfl ?_
          | refine T_iload_n (pc1 := 54) (pc := 53) k_M_sheet_53 rfl rfl ?_
          | (with_reducible refine T_if_geN (tgt := 61) (pc1 := 57) (pc := 54) k_M_sheet_54 (by decide) (by decide) (by omega) ?_ <;> first | (exfalso; omega) | skip)
          | refine T_if_ge_t (tgt := 61) (pc := 54) k_M_sheet_54 rfl (by decide) ?_
          | refine T_if_ge_f (tgt := 61) (pc1 := 57) (pc := 54) k_M_sheet_54 rfl rfl (by decide) ?_
          | refine T_if_ge (tgt := 61) (pc1 := 57) (pc := 54) k_M_sheet_54 rfl rfl (fun hc => ?_) (fun hc => ?_)
          | refine T_iconst (v := (nI 0)) (pc1 := 58) (pc := 57) k_M_sheet_57 rfl (by decide) ?_
          | refine T_goto (tgt := 62) (pc := 58) k_M_sheet_58 rfl ?_
          | refine T_iload_n (pc1 := 62) (pc := 61) k_M_sheet_61 rfl rfl ?_
          | refine T_iastN (pc1 := 63) (pc := 62) k_M_sheet_62 rfl (by first | exact ga G (by decide) rfl | assumption) (by omega) (by omega) ?_
          | refine T_iconst (v := (nI 0)) (pc1 := 64) (pc := 63) k_M_sheet_63 rfl (by decide) ?_
          | refine T_istore (pc1 := 66) (pc := 64) k_M_sheet_64 rfl (Nat.le_of_ble_eq_true rfl) ?_
          | refine T_bipush (v := (nI 24)) (pc1 := 70) (pc := 68) k_M_sheet_68 rfl (by decide) ?_
          | (with_reducible refine T_icmp_geN (tgt := 92) (pc1 := 73) (pc := 70) k_M_sheet_70 (by decide) (by decide) (by omega) (by omega) (fun hc => ?_) (fun hc => ?_) <;> first | (exfalso; omega) | skip)
          | refine T_icmp_ge_t (tgt := 92) (pc := 70) k_M_sheet_70 rfl (by decide) ?_
          | refine T_icmp_ge_f (tgt := 92) (pc1 := 73) (pc := 70) k_M_sheet_70 rfl rfl (by decide) ?_
          | refine T_icmp_ge (tgt := 92) (pc1 := 73) (pc := 70) k_M_sheet_70 rfl rfl (fun hc => ?_) (fun hc => ?_)
          | refine T_aload_n (pc1 := 74) (pc := 73) k_M_sheet_73 rfl rfl ?_
          | refine T_aload_nN (pc1 := 74) (pc := 73) k_M_sheet_73 rfl rfl ?_
          | refine T_getR (pc1 := 77) (pc := 74) k_M_sheet_74 rfl f_M_67 rfl (by first | exact ga G (by decide) rfl | assumption) (by first | exact gr G (by decide) rfl | assumption) ?_
          | refine T_bipush (v := (nI 24)) (pc1 := 79) (pc := 77) k_M_sheet_77 rfl (by decide) ?_
          | refine T_iload_n (pc1 := 80) (pc := 79) k_M_sheet_79 rfl rfl ?_
          | with_reducible refine T_imulN (pc1 := 81) (pc := 80) k_M_sheet_80 (by decide) ?_
          | refine T_imul (pc1 := 81) (pc := 80) k_M_sheet_80 rfl ?_
          | refine T_iload (pc1 := 83) (pc := 81) k_M_sheet_81 rfl rfl ?_
          | with_reducible refine T_iaddN (pc1 := 84) (pc := 83) k_M_sheet_83 (by decide) ?_
          | refine T_iadd (pc1 := 84) (pc := 83) k_M_sheet_83 rfl ?_
          | refine T_iconst (v := (nI 0)) (pc1 := 85) (pc := 84) k_M_sheet_84 rfl (by decide) ?_
          | refine T_iastN (pc1 := 86) (pc := 85) k_M_sheet_85 rfl (by first | exact ga G (by decide) rfl | assumption) (by omega) (by omega) ?_
          | refine T_iincN (b := 1) (pc1 := 89) (pc := 86) k_M_sheet_86 rfl rfl (by decide) ?_
          | refine T_iinc (v := (nI 1)) (pc1 := 89) (pc := 86) k_M_sheet_86 rfl rfl (by decide) ?_
          | refine T_goto (tgt := 66) (pc := 89) k_M_sheet_89 rfl ?_
          | refine T_aload_n (pc1 := 93) (pc := 92) k_M_sheet_92 rfl rfl ?_
          | refine T_aload_nN (pc1 := 93) (pc := 92) k_M_sheet_92 rfl rfl ?_
          | refine T_getR (pc1 := 96) (pc := 93) k_M_sheet_93 rfl f_M_64 rfl (by first | exact ga G (by decide) rfl | assumption) (by first | exact gr G (by decide) rfl | assumption) ?_
          | refine T_iload_n (pc1 := 97) (pc := 96) k_M_sheet_96 rfl rfl ?_
          | refine T_ialdN (pc1 := 98) (pc := 97) k_M_sheet_97 rfl (by first | exact ga G (by decide) rfl | assumption) (by omega) (by omega) (by first | assumption | (simp (disch := omega) only [pI_eq, pI_row, pI_col, va_up_self, va_up_ne, ne_eq, not_false_eq_true] <;> rfl) | rfl) ?_
          | refine T_iald (pc1 := 98) (pc := 97) k_M_sheet_97 rfl (by first | exact ga G (by decide) rfl | assumption) (by assumption) ?_
          | refine T_retI (pc := 98) k_M_sheet_98 rfl (by first | rfl | decide | assumption) ?_)
        refine ih (k + 1) _ (by omega) (eqx_pI hJ _ (by decide)) ((pI_rw (by decide)).trans h1) ((pI_rw (by decide)).trans h2) ?_
        rw [pI_self, h3, zer_s]
    have h1 := hok.2.1.1
    have h2 := hok.2.1.2
    have h3 := hok.2.2
    by_cases hs : so.toInt < 0
    · have hv : sheetV so n = nI 0 := if_pos hs
      repeat' (first
        | refine T_iload_n (pc1 := 1) (pc := 0) k_M_sheet_0 rfl rfl ?_
        | (refine T_cS (As := [_]) (d1 := 2) (pc1 := 4) (pc := 1) k_M_sheet_1 rfl (by decide) (Nat.le_of_ble_eq_true rfl) rfl o_M_isSheet l_M_193 rfl (c_M_isSheet (fun hw => ?_) (fun hw => ?_)) <;> try dsimp only [psh])
        | (with_reducible refine T_if_eqN (tgt := 26) (pc1 := 7) (pc := 4) k_M_sheet_4 (by decide) (by decide) (by omega) (fun hc => ?_) (fun hc => ?_) <;> first | (exfalso; omega) | skip)
        | refine T_if_eq_t (tgt := 26) (pc := 4) k_M_sheet_4 rfl (by decide) ?_
        | refine T_if_eq_f (tgt := 26) (pc1 := 7) (pc := 4) k_M_sheet_4 rfl rfl (by decide) ?_
        | refine T_if_eq (tgt := 26) (pc1 := 7) (pc := 4) k_M_sheet_4 rfl rfl (fun hc => ?_) (fun hc => ?_)
        | refine T_iload_n (pc1 := 8) (pc := 7) k_M_sheet_7 rfl rfl ?_
        | refine T_iconst (v := (-1)) (pc1 := 9) (pc := 8) k_M_sheet_8 rfl (by decide) ?_
        | refine T_iconst (v := (nI 1)) (pc1 := 10) (pc := 9) k_M_sheet_9 rfl (by decide) ?_
        | (refine T_cS (As := [_, _, _]) (d1 := 1) (pc1 := 13) (pc := 10) k_M_sheet_10 rfl (by decide) (Nat.le_of_ble_eq_true rfl) rfl o_M_within l_M_95 rfl (c_M_within (fun hw => ?_) (fun hw => ?_)) <;> try dsimp only [psh])
        | (with_reducible refine T_if_eqN (tgt := 26) (pc1 := 16) (pc := 13) k_M_sheet_13 (by decide) (by decide) (by omega) (fun hc => ?_) (fun hc => ?_) <;> first | (exfalso; omega) | skip)
        | refine T_if_eq_t (tgt := 26) (pc := 13) k_M_sheet_13 rfl (by decide) ?_
        | refine T_if_eq_f (tgt := 26) (pc1 := 16) (pc := 13) k_M_sheet_13 rfl rfl (by decide) ?_
        | refine T_if_eq (tgt := 26) (pc1 := 16) (pc := 13) k_M_sheet_13 rfl rfl (fun hc => ?_) (fun hc => ?_)
        | refine T_iload_n (pc1 := 17) (pc := 16) k_M_sheet_16 rfl rfl ?_
        | (with_reducible refine T_if_ltN (tgt := 29) (pc1 := 20) (pc := 17) k_M_sheet_17 (by decide) (by decide) (by omega) ?_ <;> first | (exfalso; omega) | skip)
        | refine T_if_lt_t (tgt := 29) (pc := 17) k_M_sheet_17 rfl (by decide) ?_
        | refine T_if_lt_f (tgt := 29) (pc1 := 20) (pc := 17) k_M_sheet_17 rfl rfl (by decide) ?_
        | refine T_if_lt (tgt := 29) (pc1 := 20) (pc := 17) k_M_sheet_17 rfl rfl (fun hc => ?_) (fun hc => ?_)
        | refine T_iload_n (pc1 := 21) (pc := 20) k_M_sheet_20 rfl rfl ?_
        | refine T_bipush (v := (nI 24)) (pc1 := 23) (pc := 21) k_M_sheet_21 rfl (by decide) ?_
        | (with_reducible refine T_icmp_leN (tgt := 29) (pc1 := 26) (pc := 23) k_M_sheet_23 (by decide) (by decide) (by omega) (by omega) (fun hc => ?_) (fun hc => ?_) <;> first | (exfalso; omega) | skip)
        | refine T_icmp_le_t (tgt := 29) (pc := 23) k_M_sheet_23 rfl (by decide) ?_
        | refine T_icmp_le_f (tgt := 29) (pc1 := 26) (pc := 23) k_M_sheet_23 rfl rfl (by decide) ?_
        | refine T_icmp_le (tgt := 29) (pc1 := 26) (pc := 23) k_M_sheet_23 rfl rfl (fun hc => ?_) (fun hc => ?_)
        | refine T_ldc (v := (-1000000001)) (pc1 := 28) (pc := 26) k_M_sheet_26 rfl c_M_111 ?_
        | refine T_retI (pc := 28) k_M_sheet_28 rfl (by first | rfl | decide | assumption) ?_
        | refine T_iload_n (pc1 := 30) (pc := 29) k_M_sheet_29 rfl rfl ?_
        | (with_reducible refine T_if_ltN (tgt := 41) (pc1 := 33) (pc := 30) k_M_sheet_30 (by decide) (by decide) (by omega) ?_ <;> first | (exfalso; omega) | skip)
        | refine T_if_lt_t (tgt := 41) (pc := 30) k_M_sheet_30 rfl (by decide) ?_
        | refine T_if_lt_f (tgt := 41) (pc1 := 33) (pc := 30) k_M_sheet_30 rfl rfl (by decide) ?_
        | refine T_if_lt (tgt := 41) (pc1 := 33) (pc := 30) k_M_sheet_30 rfl rfl (fun hc => ?_) (fun hc => ?_)
        | refine T_iload_n (pc1 := 34) (pc := 33) k_M_sheet_33 rfl rfl ?_
        | (with_reducible refine T_if_geN (tgt := 41) (pc1 := 37) (pc := 34) k_M_sheet_34 (by decide) (by decide) (by omega) ?_ <;> first | (exfalso; omega) | skip)
        | refine T_if_ge_t (tgt := 41) (pc := 34) k_M_sheet_34 rfl (by decide) ?_
        | refine T_if_ge_f (tgt := 41) (pc1 := 37) (pc := 34) k_M_sheet_34 rfl rfl (by decide) ?_
        | refine T_if_ge (tgt := 41) (pc1 := 37) (pc := 34) k_M_sheet_34 rfl rfl (fun hc => ?_) (fun hc => ?_)
        | refine T_ldcw (v := (-1000000014)) (pc1 := 40) (pc := 37) k_M_sheet_37 rfl c_M_296 ?_
        | refine T_retI (pc := 40) k_M_sheet_40 rfl (by first | rfl | decide | assumption) ?_
        | refine T_aload_n (pc1 := 42) (pc := 41) k_M_sheet_41 rfl rfl ?_
        | refine T_aload_nN (pc1 := 42) (pc := 41) k_M_sheet_41 rfl rfl ?_
        | refine T_getR (pc1 := 45) (pc := 42) k_M_sheet_42 rfl f_M_61 rfl (by first | exact ga G (by decide) rfl | assumption) (by first | exact gr G (by decide) rfl | assumption) ?_
        | refine T_iload_n (pc1 := 46) (pc := 45) k_M_sheet_45 rfl rfl ?_
        | refine T_iload_n (pc1 := 47) (pc := 46) k_M_sheet_46 rfl rfl ?_
        | refine T_iastN (pc1 := 48) (pc := 47) k_M_sheet_47 rfl (by first | exact ga G (by decide) rfl | assumption) (by omega) (by omega) ?_
        | refine T_aload_n (pc1 := 49) (pc := 48) k_M_sheet_48 rfl rfl ?_
        | refine T_aload_nN (pc1 := 49) (pc := 48) k_M_sheet_48 rfl rfl ?_
        | refine T_getR (pc1 := 52) (pc := 49) k_M_sheet_49 rfl f_M_64 rfl (by first | exact ga G (by decide) rfl | assumption) (by first | exact gr G (by decide) rfl | assumption) ?_
        | refine T_iload_n (pc1 := 53) (pc := 52) k_M_sheet_52 rfl rfl ?_
        | refine T_iload_n (pc1 := 54) (pc := 53) k_M_sheet_53 rfl rfl ?_
        | (with_reducible refine T_if_geN (tgt := 61) (pc1 := 57) (pc := 54) k_M_sheet_54 (by decide) (by decide) (by omega) ?_ <;> first | (exfalso; omega) | skip)
        | refine T_if_ge_t (tgt := 61) (pc := 54) k_M_sheet_54 rfl (by decide) ?_
        | refine T_if_ge_f (tgt := 61) (pc1 := 57) (pc := 54) k_M_sheet_54 rfl rfl (by decide) ?_
        | refine T_if_ge (tgt := 61) (pc1 := 57) (pc := 54) k_M_sheet_54 rfl rfl (fun hc => ?_) (fun hc => ?_)
        | refine T_iconst (v := (nI 0)) (pc1 := 58) (pc := 57) k_M_sheet_57 rfl (by decide) ?_
        | refine T_goto (tgt := 62) (pc := 58) k_M_sheet_58 rfl ?_
        | refine T_iload_n (pc1 := 62) (pc := 61) k_M_sheet_61 rfl rfl ?_
        | refine T_iastN (pc1 := 63) (pc := 62) k_M_sheet_62 rfl (by first | exact ga G (by decide) rfl | assumption) (by omega) (by omega) ?_
        | refine T_iconst (v := (nI 0)) (pc1 := 64) (pc := 63) k_M_sheet_63 rfl (by decide) ?_
        | refine T_istore (pc1 := 66) (pc := 64) k_M_sheet_64 rfl (Nat.le_of_ble_eq_true rfl) ?_
        | refine T_bipush (v := (nI 24)) (pc1 := 70) (pc := 68) k_M_sheet_68 rfl (by decide) ?_
        | (with_reducible refine T_icmp_geN (tgt := 92) (pc1 := 73) (pc := 70) k_M_sheet_70 (by decide) (by decide) (by omega) (by omega) (fun hc => ?_) (fun hc => ?_) <;> first | (exfalso; omega) | skip)
        | refine T_icmp_ge_t (tgt := 92) (pc := 70) k_M_sheet_70 rfl (by decide) ?_
        | refine T_icmp_ge_f (tgt := 92) (pc1 := 73) (pc := 70) k_M_sheet_70 rfl rfl (by decide) ?_
        | refine T_icmp_ge (tgt := 92) (pc1 := 73) (pc := 70) k_M_sheet_70 rfl rfl (fun hc => ?_) (fun hc => ?_)
        | refine T_aload_n (pc1 := 74) (pc := 73) k_M_sheet_73 rfl rfl ?_
        | refine T_aload_nN (pc1 := 74) (pc := 73) k_M_sheet_73 rfl rfl ?_
        | refine T_getR (pc1 := 77) (pc := 74) k_M_sheet_74 rfl f_M_67 rfl (by first | exact ga G (by decide) rfl | assumption) (by first | exact gr G (by decide) rfl | assumption) ?_
        | refine T_bipush (v := (nI 24)) (pc1 := 79) (pc := 77) k_M_sheet_77 rfl (by decide) ?_
        | refine T_iload_n (pc1 := 80) (pc := 79) k_M_sheet_79 rfl rfl ?_
        | with_reducible refine T_imulN (pc1 := 81) (pc := 80) k_M_sheet_80 (by decide) ?_
        | refine T_imul (pc1 := 81) (pc := 80) k_M_sheet_80 rfl ?_
        | refine T_iload (pc1 := 83) (pc := 81) k_M_sheet_81 rfl rfl ?_
        | with_reducible refine T_iaddN (pc1 := 84) (pc := 83) k_M_sheet_83 (by decide) ?_
        | refine T_iadd (pc1 := 84) (pc := 83) k_M_sheet_83 rfl ?_
        | refine T_iconst (v := (nI 0)) (pc1 := 85) (pc := 84) k_M_sheet_84 rfl (by decide) ?_
        | refine T_iastN (pc1 := 86) (pc := 85) k_M_sheet_85 rfl (by first | exact ga G (by decide) rfl | assumption) (by omega) (by omega) ?_
        | refine T_iincN (b := 1) (pc1 := 89) (pc := 86) k_M_sheet_86 rfl rfl (by decide) ?_
        | refine T_iinc (v := (nI 1)) (pc1 := 89) (pc := 86) k_M_sheet_86 rfl rfl (by decide) ?_
        | refine T_goto (tgt := 66) (pc := 89) k_M_sheet_89 rfl ?_
        | refine T_aload_n (pc1 := 93) (pc := 92) k_M_sheet_92 rfl rfl ?_
        | refine T_aload_nN (pc1 := 93) (pc := 92) k_M_sheet_92 rfl rfl ?_
        | refine T_getR (pc1 := 96) (pc := 93) k_M_sheet_93 rfl f_M_64 rfl (by first | exact ga G (by decide) rfl | assumption) (by first | exact gr G (by decide) rfl | assumption) ?_
        | refine T_iload_n (pc1 := 97) (pc := 96) k_M_sheet_96 rfl rfl ?_
        | refine T_ialdN (pc1 := 98) (pc := 97) k_M_sheet_97 rfl (by first | exact ga G (by decide) rfl | assumption) (by omega) (by omega) (by first | assumption | (simp (disch := omega) only [pI_eq, pI_row, pI_col, va_up_self, va_up_ne, ne_eq, not_false_eq_true] <;> rfl) | rfl) ?_
        | refine T_iald (pc1 := 98) (pc := 97) k_M_sheet_97 rfl (by first | exact ga G (by decide) rfl | assumption) (by assumption) ?_
        | refine T_retI (pc := 98) k_M_sheet_98 rfl (by first | rfl | decide | assumption) ?_)
      all_goals first | (refine loop 24 0 _ (by omega) (eqx_pI (eqx_pI eqx_rf _ (by decide)) _ (by decide)) ?_ ?_ ?_; (rw [pI_rw (by decide), pI_self, hSo]); (rw [pI_self, pI_rw (by decide), hSi, hv]); (rw [pI_rw (by decide), pI_rw (by decide), zer_0, hPl])) | (exfalso; exact hw hok.1) | (exfalso; apply hw; constructor <;> omega) | (exfalso; rw [lt_toInt] at *; omega) | (exfalso; rw [le_toInt] at *; omega)
    · have hv : sheetV so n = n := if_neg hs
      have h4 : bt 0 24 n := h3.resolve_left hs
      have h5 := h4.1
      have h6 := h4.2
      repeat' (first
        | refine T_iload_n (pc1 := 1) (pc := 0) k_M_sheet_0 rfl rfl ?_
        | (refine T_cS (As := [_]) (d1 := 2) (pc1 := 4) (pc := 1) k_M_sheet_1 rfl (by decide) (Nat.le_of_ble_eq_true rfl) rfl o_M_isSheet l_M_193 rfl (c_M_isSheet (fun hw => ?_) (fun hw => ?_)) <;> try dsimp only [psh])
        | (with_reducible refine T_if_eqN (tgt := 26) (pc1 := 7) (pc := 4) k_M_sheet_4 (by decide) (by decide) (by omega) (fun hc => ?_) (fun hc => ?_) <;> first | (exfalso; omega) | skip)
        | refine T_if_eq_t (tgt := 26) (pc := 4) k_M_sheet_4 rfl (by decide) ?_
        | refine T_if_eq_f (tgt := 26) (pc1 := 7) (pc := 4) k_M_sheet_4 rfl rfl (by decide) ?_
        | refine T_if_eq (tgt := 26) (pc1 := 7) (pc := 4) k_M_sheet_4 rfl rfl (fun hc => ?_) (fun hc => ?_)
        | refine T_iload_n (pc1 := 8) (pc := 7) k_M_sheet_7 rfl rfl ?_
        | refine T_iconst (v := (-1)) (pc1 := 9) (pc := 8) k_M_sheet_8 rfl (by decide) ?_
        | refine T_iconst (v := (nI 1)) (pc1 := 10) (pc := 9) k_M_sheet_9 rfl (by decide) ?_
        | (refine T_cS (As := [_, _, _]) (d1 := 1) (pc1 := 13) (pc := 10) k_M_sheet_10 rfl (by decide) (Nat.le_of_ble_eq_true rfl) rfl o_M_within l_M_95 rfl (c_M_within (fun hw => ?_) (fun hw => ?_)) <;> try dsimp only [psh])
        | (with_reducible refine T_if_eqN (tgt := 26) (pc1 := 16) (pc := 13) k_M_sheet_13 (by decide) (by decide) (by omega) (fun hc => ?_) (fun hc => ?_) <;> first | (exfalso; omega) | skip)
        | refine T_if_eq_t (tgt := 26) (pc := 13) k_M_sheet_13 rfl (by decide) ?_
        | refine T_if_eq_f (tgt := 26) (pc1 := 16) (pc := 13) k_M_sheet_13 rfl rfl (by decide) ?_
        | refine T_if_eq (tgt := 26) (pc1 := 16) (pc := 13) k_M_sheet_13 rfl rfl (fun hc => ?_) (fun hc => ?_)
        | refine T_iload_n (pc1 := 17) (pc := 16) k_M_sheet_16 rfl rfl ?_
        | (with_reducible refine T_if_ltN (tgt := 29) (pc1 := 20) (pc := 17) k_M_sheet_17 (by decide) (by decide) (by omega) ?_ <;> first | (exfalso; omega) | skip)
        | refine T_if_lt_t (tgt := 29) (pc := 17) k_M_sheet_17 rfl (by decide) ?_
        | refine T_if_lt_f (tgt := 29) (pc1 := 20) (pc := 17) k_M_sheet_17 rfl rfl (by decide) ?_
        | refine T_if_lt (tgt := 29) (pc1 := 20) (pc := 17) k_M_sheet_17 rfl rfl (fun hc => ?_) (fun hc => ?_)
        | refine T_iload_n (pc1 := 21) (pc := 20) k_M_sheet_20 rfl rfl ?_
        | refine T_bipush (v := (nI 24)) (pc1 := 23) (pc := 21) k_M_sheet_21 rfl (by decide) ?_
        | (with_reducible refine T_icmp_leN (tgt := 29) (pc1 := 26) (pc := 23) k_M_sheet_23 (by decide) (by decide) (by omega) (by omega) (fun hc => ?_) (fun hc => ?_) <;> first | (exfalso; omega) | skip)
        | refine T_icmp_le_t (tgt := 29) (pc := 23) k_M_sheet_23 rfl (by decide) ?_
        | refine T_icmp_le_f (tgt := 29) (pc1 := 26) (pc := 23) k_M_sheet_23 rfl rfl (by decide) ?_
        | refine T_icmp_le (tgt := 29) (pc1 := 26) (pc := 23) k_M_sheet_23 rfl rfl (fun hc => ?_) (fun hc => ?_)
        | refine T_ldc (v := (-1000000001)) (pc1 := 28) (pc := 26) k_M_sheet_26 rfl c_M_111 ?_
        | refine T_retI (pc := 28) k_M_sheet_28 rfl (by first | rfl | decide | assumption) ?_
        | refine T_iload_n (pc1 := 30) (pc := 29) k_M_sheet_29 rfl rfl ?_
        | (with_reducible refine T_if_ltN (tgt := 41) (pc1 := 33) (pc := 30) k_M_sheet_30 (by decide) (by decide) (by omega) ?_ <;> first | (exfalso; omega) | skip)
        | refine T_if_lt_t (tgt := 41) (pc := 30) k_M_sheet_30 rfl (by decide) ?_
        | refine T_if_lt_f (tgt := 41) (pc1 := 33) (pc := 30) k_M_sheet_30 rfl rfl (by decide) ?_
        | refine T_if_lt (tgt := 41) (pc1 := 33) (pc := 30) k_M_sheet_30 rfl rfl (fun hc => ?_) (fun hc => ?_)
        | refine T_iload_n (pc1 := 34) (pc := 33) k_M_sheet_33 rfl rfl ?_
        | (with_reducible refine T_if_geN (tgt := 41) (pc1 := 37) (pc := 34) k_M_sheet_34 (by decide) (by decide) (by omega) ?_ <;> first | (exfalso; omega) | skip)
        | refine T_if_ge_t (tgt := 41) (pc := 34) k_M_sheet_34 rfl (by decide) ?_
        | refine T_if_ge_f (tgt := 41) (pc1 := 37) (pc := 34) k_M_sheet_34 rfl rfl (by decide) ?_
        | refine T_if_ge (tgt := 41) (pc1 := 37) (pc := 34) k_M_sheet_34 rfl rfl (fun hc => ?_) (fun hc => ?_)
        | refine T_ldcw (v := (-1000000014)) (pc1 := 40) (pc := 37) k_M_sheet_37 rfl c_M_296 ?_
        | refine T_retI (pc := 40) k_M_sheet_40 rfl (by first | rfl | decide | assumption) ?_
        | refine T_aload_n (pc1 := 42) (pc := 41) k_M_sheet_41 rfl rfl ?_
        | refine T_aload_nN (pc1 := 42) (pc := 41) k_M_sheet_41 rfl rfl ?_
        | refine T_getR (pc1 := 45) (pc := 42) k_M_sheet_42 rfl f_M_61 rfl (by first | exact ga G (by decide) rfl | assumption) (by first | exact gr G (by decide) rfl | assumption) ?_
        | refine T_iload_n (pc1 := 46) (pc := 45) k_M_sheet_45 rfl rfl ?_
        | refine T_iload_n (pc1 := 47) (pc := 46) k_M_sheet_46 rfl rfl ?_
        | refine T_iastN (pc1 := 48) (pc := 47) k_M_sheet_47 rfl (by first | exact ga G (by decide) rfl | assumption) (by omega) (by omega) ?_
        | refine T_aload_n (pc1 := 49) (pc := 48) k_M_sheet_48 rfl rfl ?_
        | refine T_aload_nN (pc1 := 49) (pc := 48) k_M_sheet_48 rfl rfl ?_
        | refine T_getR (pc1 := 52) (pc := 49) k_M_sheet_49 rfl f_M_64 rfl (by first | exact ga G (by decide) rfl | assumption) (by first | exact gr G (by decide) rfl | assumption) ?_
        | refine T_iload_n (pc1 := 53) (pc := 52) k_M_sheet_52 rfl rfl ?_
        | refine T_iload_n (pc1 := 54) (pc := 53) k_M_sheet_53 rfl rfl ?_
        | (with_reducible refine T_if_geN (tgt := 61) (pc1 := 57) (pc := 54) k_M_sheet_54 (by decide) (by decide) (by omega) ?_ <;> first | (exfalso; omega) | skip)
        | refine T_if_ge_t (tgt := 61) (pc := 54) k_M_sheet_54 rfl (by decide) ?_
        | refine T_if_ge_f (tgt := 61) (pc1 := 57) (pc := 54) k_M_sheet_54 rfl rfl (by decide) ?_
        | refine T_if_ge (tgt := 61) (pc1 := 57) (pc := 54) k_M_sheet_54 rfl rfl (fun hc => ?_) (fun hc => ?_)
        | refine T_iconst (v := (nI 0)) (pc1 := 58) (pc := 57) k_M_sheet_57 rfl (by decide) ?_
        | refine T_goto (tgt := 62) (pc := 58) k_M_sheet_58 rfl ?_
        | refine T_iload_n (pc1 := 62) (pc := 61) k_M_sheet_61 rfl rfl ?_
        | refine T_iastN (pc1 := 63) (pc := 62) k_M_sheet_62 rfl (by first | exact ga G (by decide) rfl | assumption) (by omega) (by omega) ?_
        | refine T_iconst (v := (nI 0)) (pc1 := 64) (pc := 63) k_M_sheet_63 rfl (by decide) ?_
        | refine T_istore (pc1 := 66) (pc := 64) k_M_sheet_64 rfl (Nat.le_of_ble_eq_true rfl) ?_
        | refine T_bipush (v := (nI 24)) (pc1 := 70) (pc := 68) k_M_sheet_68 rfl (by decide) ?_
        | (with_reducible refine T_icmp_geN (tgt := 92) (pc1 := 73) (pc := 70) k_M_sheet_70 (by decide) (by decide) (by omega) (by omega) (fun hc => ?_) (fun hc => ?_) <;> first | (exfalso; omega) | skip)
        | refine T_icmp_ge_t (tgt := 92) (pc := 70) k_M_sheet_70 rfl (by decide) ?_
        | refine T_icmp_ge_f (tgt := 92) (pc1 := 73) (pc := 70) k_M_sheet_70 rfl rfl (by decide) ?_
        | refine T_icmp_ge (tgt := 92) (pc1 := 73) (pc := 70) k_M_sheet_70 rfl rfl (fun hc => ?_) (fun hc => ?_)
        | refine T_aload_n (pc1 := 74) (pc := 73) k_M_sheet_73 rfl rfl ?_
        | refine T_aload_nN (pc1 := 74) (pc := 73) k_M_sheet_73 rfl rfl ?_
        | refine T_getR (pc1 := 77) (pc := 74) k_M_sheet_74 rfl f_M_67 rfl (by first | exact ga G (by decide) rfl | assumption) (by first | exact gr G (by decide) rfl | assumption) ?_
        | refine T_bipush (v := (nI 24)) (pc1 := 79) (pc := 77) k_M_sheet_77 rfl (by decide) ?_
        | refine T_iload_n (pc1 := 80) (pc := 79) k_M_sheet_79 rfl rfl ?_
        | with_reducible refine T_imulN (pc1 := 81) (pc := 80) k_M_sheet_80 (by decide) ?_
        | refine T_imul (pc1 := 81) (pc := 80) k_M_sheet_80 rfl ?_
        | refine T_iload (pc1 := 83) (pc := 81) k_M_sheet_81 rfl rfl ?_
        | with_reducible refine T_iaddN (pc1 := 84) (pc := 83) k_M_sheet_83 (by decide) ?_
        | refine T_iadd (pc1 := 84) (pc := 83) k_M_sheet_83 rfl ?_
        | refine T_iconst (v := (nI 0)) (pc1 := 85) (pc := 84) k_M_sheet_84 rfl (by decide) ?_
        | refine T_iastN (pc1 := 86) (pc := 85) k_M_sheet_85 rfl (by first | exact ga G (by decide) rfl | assumption) (by omega) (by omega) ?_
        | refine T_iincN (b := 1) (pc1 := 89) (pc := 86) k_M_sheet_86 rfl rfl (by decide) ?_
        | refine T_iinc (v := (nI 1)) (pc1 := 89) (pc := 86) k_M_sheet_86 rfl rfl (by decide) ?_
        | refine T_goto (tgt := 66) (pc := 89) k_M_sheet_89 rfl ?_
        | refine T_aload_n (pc1 := 93) (pc := 92) k_M_sheet_92 rfl rfl ?_
        | refine T_aload_nN (pc1 := 93) (pc := 92) k_M_sheet_92 rfl rfl ?_
        | refine T_getR (pc1 := 96) (pc := 93) k_M_sheet_93 rfl f_M_64 rfl (by first | exact ga G (by decide) rfl | assumption) (by first | exact gr G (by decide) rfl | assumption) ?_
        | refine T_iload_n (pc1 := 97) (pc := 96) k_M_sheet_96 rfl rfl ?_
        | refine T_ialdN (pc1 := 98) (pc := 97) k_M_sheet_97 rfl (by first | exact ga G (by decide) rfl | assumption) (by omega) (by omega) (by first | assumption | (simp (disch := omega) only [pI_eq, pI_row, pI_col, va_up_self, va_up_ne, ne_eq, not_false_eq_true] <;> rfl) | rfl) ?_
        | refine T_iald (pc1 := 98) (pc := 97) k_M_sheet_97 rfl (by first | exact ga G (by decide) rfl | assumption) (by assumption) ?_
        | refine T_retI (pc := 98) k_M_sheet_98 rfl (by first | rfl | decide | assumption) ?_)
      all_goals first | (refine loop 24 0 _ (by omega) (eqx_pI (eqx_pI eqx_rf _ (by decide)) _ (by decide)) ?_ ?_ ?_; (rw [pI_rw (by decide), pI_self, hSo]); (rw [pI_self, pI_rw (by decide), hSi, hv]); (rw [pI_rw (by decide), pI_rw (by decide), zer_0, hPl])) | (exfalso; exact hw hok.1) | (exfalso; apply hw; constructor <;> omega) | (exfalso; rw [lt_toInt] at *; omega) | (exfalso; rw [le_toInt] at *; omega)
  · rw [sheetA, if_neg hok] at kk
    repeat' (first
      | refine T_iload_n (pc1 := 1) (pc := 0) k_M_sheet_0 rfl rfl ?_
      | (refine T_cS (As := [_]) (d1 := 2) (pc1 := 4) (pc := 1) k_M_sheet_1 rfl (by decide) (Nat.le_of_ble_eq_true rfl) rfl o_M_isSheet l_M_193 rfl (c_M_isSheet (fun hw => ?_) (fun hw => ?_)) <;> try dsimp only [psh])
      | (with_reducible refine T_if_eqN (tgt := 26) (pc1 := 7) (pc := 4) k_M_sheet_4 (by decide) (by decide) (by omega) (fun hc => ?_) (fun hc => ?_) <;> first | (exfalso; omega) | skip)
      | refine T_if_eq_t (tgt := 26) (pc := 4) k_M_sheet_4 rfl (by decide) ?_
      | refine T_if_eq_f (tgt := 26) (pc1 := 7) (pc := 4) k_M_sheet_4 rfl rfl (by decide) ?_
      | refine T_if_eq (tgt := 26) (pc1 := 7) (pc := 4) k_M_sheet_4 rfl rfl (fun hc => ?_) (fun hc => ?_)
      | refine T_iload_n (pc1 := 8) (pc := 7) k_M_sheet_7 rfl rfl ?_
      | refine T_iconst (v := (-1)) (pc1 := 9) (pc := 8) k_M_sheet_8 rfl (by decide) ?_
      | refine T_iconst (v := (nI 1)) (pc1 := 10) (pc := 9) k_M_sheet_9 rfl (by decide) ?_
      | (refine T_cS (As := [_, _, _]) (d1 := 1) (pc1 := 13) (pc := 10) k_M_sheet_10 rfl (by decide) (Nat.le_of_ble_eq_true rfl) rfl o_M_within l_M_95 rfl (c_M_within (fun hw => ?_) (fun hw => ?_)) <;> try dsimp only [psh])
      | (with_reducible refine T_if_eqN (tgt := 26) (pc1 := 16) (pc := 13) k_M_sheet_13 (by decide) (by decide) (by omega) (fun hc => ?_) (fun hc => ?_) <;> first | (exfalso; omega) | skip)
      | refine T_if_eq_t (tgt := 26) (pc := 13) k_M_sheet_13 rfl (by decide) ?_
      | refine T_if_eq_f (tgt := 26) (pc1 := 16) (pc := 13) k_M_sheet_13 rfl rfl (by decide) ?_
      | refine T_if_eq (tgt := 26) (pc1 := 16) (pc := 13) k_M_sheet_13 rfl rfl (fun hc => ?_) (fun hc => ?_)
      | refine T_iload_n (pc1 := 17) (pc := 16) k_M_sheet_16 rfl rfl ?_
      | (with_reducible refine T_if_ltN (tgt := 29) (pc1 := 20) (pc := 17) k_M_sheet_17 (by decide) (by decide) (by omega) ?_ <;> first | (exfalso; omega) | skip)
      | refine T_if_lt_t (tgt := 29) (pc := 17) k_M_sheet_17 rfl (by decide) ?_
      | refine T_if_lt_f (tgt := 29) (pc1 := 20) (pc := 17) k_M_sheet_17 rfl rfl (by decide) ?_
      | refine T_if_lt (tgt := 29) (pc1 := 20) (pc := 17) k_M_sheet_17 rfl rfl (fun hc => ?_) (fun hc => ?_)
      | refine T_iload_n (pc1 := 21) (pc := 20) k_M_sheet_20 rfl rfl ?_
      | refine T_bipush (v := (nI 24)) (pc1 := 23) (pc := 21) k_M_sheet_21 rfl (by decide) ?_
      | (with_reducible refine T_icmp_leN (tgt := 29) (pc1 := 26) (pc := 23) k_M_sheet_23 (by decide) (by decide) (by omega) (by omega) (fun hc => ?_) (fun hc => ?_) <;> first | (exfalso; omega) | skip)
      | refine T_icmp_le_t (tgt := 29) (pc := 23) k_M_sheet_23 rfl (by decide) ?_
      | refine T_icmp_le_f (tgt := 29) (pc1 := 26) (pc := 23) k_M_sheet_23 rfl rfl (by decide) ?_
      | refine T_icmp_le (tgt := 29) (pc1 := 26) (pc := 23) k_M_sheet_23 rfl rfl (fun hc => ?_) (fun hc => ?_)
      | refine T_ldc (v := (-1000000001)) (pc1 := 28) (pc := 26) k_M_sheet_26 rfl c_M_111 ?_
      | refine T_retI (pc := 28) k_M_sheet_28 rfl (by first | rfl | decide | assumption) ?_
      | refine T_iload_n (pc1 := 30) (pc := 29) k_M_sheet_29 rfl rfl ?_
      | (with_reducible refine T_if_ltN (tgt := 41) (pc1 := 33) (pc := 30) k_M_sheet_30 (by decide) (by decide) (by omega) ?_ <;> first | (exfalso; omega) | skip)
      | refine T_if_lt_t (tgt := 41) (pc := 30) k_M_sheet_30 rfl (by decide) ?_
      | refine T_if_lt_f (tgt := 41) (pc1 := 33) (pc := 30) k_M_sheet_30 rfl rfl (by decide) ?_
      | refine T_if_lt (tgt := 41) (pc1 := 33) (pc := 30) k_M_sheet_30 rfl rfl (fun hc => ?_) (fun hc => ?_)
      | refine T_iload_n (pc1 := 34) (pc := 33) k_M_sheet_33 rfl rfl ?_
      | (with_reducible refine T_if_geN (tgt := 41) (pc1 := 37) (pc := 34) k_M_sheet_34 (by decide) (by decide) (by omega) ?_ <;> first | (exfalso; omega) | skip)
      | refine T_if_ge_t (tgt := 41) (pc := 34) k_M_sheet_34 rfl (by decide) ?_
      | refine T_if_ge_f (tgt := 41) (pc1 := 37) (pc := 34) k_M_sheet_34 rfl rfl (by decide) ?_
      | refine T_if_ge (tgt := 41) (pc1 := 37) (pc := 34) k_M_sheet_34 rfl rfl (fun hc => ?_) (fun hc => ?_)
      | refine T_ldcw (v := (-1000000014)) (pc1 := 40) (pc := 37) k_M_sheet_37 rfl c_M_296 ?_
      | refine T_retI (pc := 40) k_M_sheet_40 rfl (by first | rfl | decide | assumption) ?_)
    all_goals first | (refine kk I _ eqx_rf (fun q => absurd q hok) (fun _ => rfl) ?_; rw [if_pos ⟨by assumption, ⟨by omega, by omega⟩, by rw [lt_toInt] at *; omega, by rw [le_toInt] at *; omega⟩]) | (refine kk I _ eqx_rf (fun q => absurd q hok) (fun _ => rfl) ?_; rw [if_neg (fun q => by obtain ⟨⟨a1, a2⟩, ⟨a3, a4⟩, a5, a6⟩ := q; first | contradiction | (exfalso; apply hw; constructor <;> omega) | (rw [le_toInt] at *; omega))]) | (exfalso; apply hok; refine ⟨by assumption, ⟨by omega, by omega⟩, ?_⟩; rw [lt_toInt] at *; rw [le_toInt] at *; omega) | (exfalso; apply hok; refine ⟨by assumption, ⟨by omega, by omega⟩, Or.inl ?_⟩; rw [lt_toInt] at *; omega)
end M13
