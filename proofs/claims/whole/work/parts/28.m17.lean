/-! The model: slots, rows told, images, counts. -/
section PU12
abbrev okLay (n : Nat) (sl th k : Int32) : Prop := rg 5 sl ∧ (th = nI 0 ∨ (th = nI 1 ∧ rg n k) ∨ (th = nI 2 ∧ rg 4 k) ∨ th = nI 3)
abbrev okLay2 (n : Nat) (So : Row) (sl th k : Int32) : Prop := okLay n sl th k ∧ ¬ (th = nI 2 ∧ So k.toNatClampNeg = -1)
def layA (n : Nat) (So Th : Row) (sl th k : Int32) : Int32 := if okLay n sl th k then (if th = nI 2 ∧ So k.toNatClampNeg = -1 then cNOTHING else Th sl.toNatClampNeg) else cBAD
def layT (n : Nat) (So Th : Row) (sl th k : Int32) : Row := if okLay2 n So sl th k then va_up Th sl.toNatClampNeg th else Th
def layV (N Si Pl : Row) (a : Nat) (th k : Int32) (He : Row) : Row := if th = nI 2 then va_cpy Pl (va_up He a (Si k.toNatClampNeg)) (24 * k.toNatClampNeg) (a + 1) 24 else if th = nI 1 then va_up (va_up He a (bf N k.toNatClampNeg 0)) (a + 1) (bf N k.toNatClampNeg 3) else va_up He a k
def layH (N : Row) (n : Nat) (So Si Pl He : Row) (sl th k : Int32) : Row := if okLay2 n So sl th k then layV N Si Pl (25 * sl.toNatClampNeg) th k He else He
/-- the slots are in order -/
def okH (Th He : Row) : Prop := ∀ s, s < 5 → Th s = nI 0 ∨ (Th s = nI 1 ∧ ∃ k l : Nat, k < 6 ∧ 1 ≤ l ∧ l ≤ 99 ∧ He (25 * s) = nI k ∧ He (25 * s + 1) = nI l) ∨ (Th s = nI 2 ∧ ∃ z : Nat, z ≤ 24 ∧ He (25 * s) = nI z) ∨ Th s = nI 3
def askA (Th He : Row) (sl k : Int32) : Int32 := if rg 5 sl ∧ rg 6 k then (if Th sl.toNatClampNeg = nI 0 then cNOTHING else if Th sl.toNatClampNeg = nI 1 ∧ und (He (25 * sl.toNatClampNeg)).toNatClampNeg k.toNatClampNeg = true then wthV (He (25 * sl.toNatClampNeg)).toNatClampNeg (He (25 * sl.toNatClampNeg + 1)) else cKIND) else cBAD
def itemA (Th He : Row) (sl p : Int32) : Int32 := if rg 5 sl then (if Th sl.toNatClampNeg = nI 0 then cNOTHING else if Th sl.toNatClampNeg = nI 2 then (if rg (He (25 * sl.toNatClampNeg)).toNatClampNeg p then (if He (25 * sl.toNatClampNeg + 1 + p.toNatClampNeg) = cNONE then cKIND else He (25 * sl.toNatClampNeg + 1 + p.toNatClampNeg)) else cINDEX) else cKIND) else cBAD
def restA (Th He : Row) (sl n : Int32) : Int32 := if rg 5 sl then (if Th sl.toNatClampNeg = nI 0 then cNOTHING else if Th sl.toNatClampNeg = nI 3 then (if n = 0 then cNO else He (25 * sl.toNatClampNeg) - He (25 * sl.toNatClampNeg) / n * n) else cKIND) else cBAD
def tellA (w : Nat) : Int32 := if w = 60 then cFULL else nI (w + 1)
def tellW (w : Nat) : Nat := if w = 60 then w else w + 1
def tellR (Wt : Row) (w : Nat) (v : Int32) : Row := if w = 60 then Wt else va_up Wt w v
def trdS (N : Row) : Nat → Int32
  | 0 => nI 0
  | b + 1 => trdS N b + bf N b 4
def countA (N : Row) (n w z : Nat) (v : Int32) : Int32 := if v = nI 0 then N 5 else if v = nI 1 then N 1 else if v = nI 2 then N 2 else if v = nI 3 then N 3 else if v = nI 4 then N 4 else if v = nI 5 then trdS N n else if v = nI 6 then nI (hsC N n) else if v = nI 7 then N 6 else if v = nI 8 then nI w else if v = nI 9 then nI z else if v = nI 10 then N 0 else cBAD
end PU12
section M17
variable {g : Geo} {I : IM} {K : Option Value → Geo → IM → Prop}
theorem c_M_holds {Th : Row} {s : Nat} {th : Int32} (G : GeoOK g) (hTh : I 118 = Th) (hs : s < 5) (kk : K (some (.int (Th s))) g (pI I 118 s th)) : Cl 1 M_M_holds [.ref 101, .int (nI s), .int th] g I K := by
  show Rl 1 M_M_holds 0 [some (.ref 101), some (.int (nI s)), some (.int th), none] [] g I K
  have e : I 118 s = Th s := by rw [hTh]
  repeat' (first
    | refine T_aload_n (pc1 := 1) (pc := 0) k_M_holds_0 rfl rfl ?_
    | refine T_aload_nN (pc1 := 1) (pc := 0) k_M_holds_0 rfl rfl ?_
    | refine T_getR (pc1 := 4) (pc := 1) k_M_holds_1 rfl f_M_73 rfl (by first | exact ga G (by decide) rfl | assumption) (by first | exact gr G (by decide) rfl | assumption) ?_
    | refine T_iload_n (pc1 := 5) (pc := 4) k_M_holds_4 rfl rfl ?_
    | refine T_ialdN (pc1 := 6) (pc := 5) k_M_holds_5 rfl (by first | exact ga G (by decide) rfl | assumption) (by omega) (by omega) (by first | assumption | (simp (disch := omega) only [pI_eq, pI_row, pI_col, va_up_self, va_up_ne, ne_eq, not_false_eq_true] <;> rfl) | rfl) ?_
    | refine T_iald (pc1 := 6) (pc := 5) k_M_holds_5 rfl (by first | exact ga G (by decide) rfl | assumption) (by assumption) ?_
    | refine T_istore_n (pc1 := 7) (pc := 6) k_M_holds_6 rfl (Nat.le_of_ble_eq_true rfl) ?_
    | refine T_aload_n (pc1 := 8) (pc := 7) k_M_holds_7 rfl rfl ?_
    | refine T_aload_nN (pc1 := 8) (pc := 7) k_M_holds_7 rfl rfl ?_
    | refine T_getR (pc1 := 11) (pc := 8) k_M_holds_8 rfl f_M_73 rfl (by first | exact ga G (by decide) rfl | assumption) (by first | exact gr G (by decide) rfl | assumption) ?_
    | refine T_iload_n (pc1 := 12) (pc := 11) k_M_holds_11 rfl rfl ?_
    | refine T_iload_n (pc1 := 13) (pc := 12) k_M_holds_12 rfl rfl ?_
    | refine T_iastN (pc1 := 14) (pc := 13) k_M_holds_13 rfl (by first | exact ga G (by decide) rfl | assumption) (by omega) (by omega) ?_
    | refine T_iload_n (pc1 := 15) (pc := 14) k_M_holds_14 rfl rfl ?_
    | refine T_retI (pc := 15) k_M_holds_15 rfl (by first | rfl | decide | assumption) ?_)
  exact kk
theorem c_M_tell {Wt : Row} {w : Nat} {v : Int32} (G : GeoOK g) (hW : I 120 = Wt) (hw0 : I 101 30 = nI w) (hw60 : w ≤ 60) (kk : ∀ J r, eqx [101, 120] I J → J 120 = tellR Wt w v → J 101 = va_up (I 101) 30 (nI (tellW w)) → r = tellA w → K (some (.int r)) g J) : Cl 1 M_M_tell [.ref 101, .int v] g I K := by
  show Rl 1 M_M_tell 0 [some (.ref 101), some (.int v)] [] g I K
  unfold tellR tellW tellA at kk
  repeat' (first
    | refine T_aload_n (pc1 := 1) (pc := 0) k_M_tell_0 rfl rfl ?_
    | refine T_aload_nN (pc1 := 1) (pc := 0) k_M_tell_0 rfl rfl ?_
    | refine T_getV (pc1 := 4) (pc := 1) k_M_tell_1 rfl f_M_307 rfl (by first | exact ga G (by decide) rfl | assumption) (by first | assumption | (simp (disch := omega) only [pI_eq, pI_row, pI_col, va_up_self, va_up_ne, ne_eq, not_false_eq_true] <;> rfl) | rfl) ?_
    | refine T_bipush (v := (nI 60)) (pc1 := 6) (pc := 4) k_M_tell_4 rfl (by decide) ?_
    | (with_reducible refine T_icmp_neN (tgt := 12) (pc1 := 9) (pc := 6) k_M_tell_6 (by decide) (by decide) (by omega) (by omega) (fun hc => ?_) (fun hc => ?_) <;> first | (exfalso; omega) | skip)
    | refine T_icmp_ne_t (tgt := 12) (pc := 6) k_M_tell_6 rfl (by decide) ?_
    | refine T_icmp_ne_f (tgt := 12) (pc1 := 9) (pc := 6) k_M_tell_6 rfl rfl (by decide) ?_
    | refine T_icmp_ne (tgt := 12) (pc1 := 9) (pc := 6) k_M_tell_6 rfl rfl (fun hc => ?_) (fun hc => ?_)
    | refine T_ldc (v := (-1000000003)) (pc1 := 11) (pc := 9) k_M_tell_9 rfl c_M_112 ?_
    | refine T_retI (pc := 11) k_M_tell_11 rfl (by first | rfl | decide | assumption) ?_
    | refine T_aload_n (pc1 := 13) (pc := 12) k_M_tell_12 rfl rfl ?_
    | refine T_aload_nN (pc1 := 13) (pc := 12) k_M_tell_12 rfl rfl ?_
    | refine T_getR (pc1 := 16) (pc := 13) k_M_tell_13 rfl f_M_79 rfl (by first | exact ga G (by decide) rfl | assumption) (by first | exact gr G (by decide) rfl | assumption) ?_
    | refine T_aload_n (pc1 := 17) (pc := 16) k_M_tell_16 rfl rfl ?_
    | refine T_aload_nN (pc1 := 17) (pc := 16) k_M_tell_16 rfl rfl ?_
    | refine T_getV (pc1 := 20) (pc := 17) k_M_tell_17 rfl f_M_307 rfl (by first | exact ga G (by decide) rfl | assumption) (by first | assumption | (simp (disch := omega) only [pI_eq, pI_row, pI_col, va_up_self, va_up_ne, ne_eq, not_false_eq_true] <;> rfl) | rfl) ?_
    | refine T_iload_n (pc1 := 21) (pc := 20) k_M_tell_20 rfl rfl ?_
    | refine T_iastN (pc1 := 22) (pc := 21) k_M_tell_21 rfl (by first | exact ga G (by decide) rfl | assumption) (by omega) (by omega) ?_
    | refine T_aload_n (pc1 := 23) (pc := 22) k_M_tell_22 rfl rfl ?_
    | refine T_aload_nN (pc1 := 23) (pc := 22) k_M_tell_22 rfl rfl ?_
    | refine T_dup (pc1 := 24) (pc := 23) k_M_tell_23 rfl rfl ?_
    | refine T_getV (pc1 := 27) (pc := 24) k_M_tell_24 rfl f_M_307 rfl (by first | exact ga G (by decide) rfl | assumption) (by first | assumption | (simp (disch := omega) only [pI_eq, pI_row, pI_col, va_up_self, va_up_ne, ne_eq, not_false_eq_true] <;> rfl) | rfl) ?_
    | refine T_iconst (v := (nI 1)) (pc1 := 28) (pc := 27) k_M_tell_27 rfl (by decide) ?_
    | with_reducible refine T_iaddN (pc1 := 29) (pc := 28) k_M_tell_28 (by decide) ?_
    | refine T_iadd (pc1 := 29) (pc := 28) k_M_tell_28 rfl ?_
    | refine T_putI (pc1 := 32) (pc := 29) k_M_tell_29 rfl f_M_307 rfl (by first | exact ga G (by decide) rfl | assumption) (by first | rfl | decide | assumption) (by first | rfl | decide | assumption) ?_
    | refine T_aload_n (pc1 := 33) (pc := 32) k_M_tell_32 rfl rfl ?_
    | refine T_aload_nN (pc1 := 33) (pc := 32) k_M_tell_32 rfl rfl ?_
    | refine T_getV (pc1 := 36) (pc := 33) k_M_tell_33 rfl f_M_307 rfl (by first | exact ga G (by decide) rfl | assumption) (by first | assumption | (simp (disch := omega) only [pI_eq, pI_row, pI_col, va_up_self, va_up_ne, ne_eq, not_false_eq_true] <;> rfl) | rfl) ?_
    | refine T_retI (pc := 36) k_M_tell_36 rfl (by first | rfl | decide | assumption) ?_)
  · rw [if_neg (by assumption), if_neg (by assumption), if_neg (by assumption)] at kk
    refine kk _ _ (eqx_pI (eqx_pI eqx_rf _ (by decide)) _ (by decide)) ?_ ?_ rfl
    · rw [pI_rw (by decide), upI hW]
    · rw [pI_self, pI_rw (by decide)]
  · have h : w = 60 := by omega
    rw [if_pos h, if_pos h, if_pos h] at kk
    exact kk I _ eqx_rf hW (up_eta hw0).symm rfl
theorem c_M_trodden {N : Row} {n : Nat} (G : GeoOK g) (hN : I 102 = N) (hn : N 5 = nI n) (h14 : n ≤ 14) (kk : K (some (.int (trdS N n))) g I) : Cl 2 M_M_trodden [.ref 101] g I K := by
  show Rl 2 M_M_trodden 0 [some (.ref 101), none, none] [] g I K
  have loop : ∀ q b, b + q = n → Rl 2 M_M_trodden 4 [some (.ref 101), some (.int (trdS N b)), some (.int (nI b))] [] g I K := by
    intro q
    induction q with
    | zero =>
      intro b hb
      have hb : b = n := by omega
      subst hb
      repeat' (first
        | refine T_iconst (v := (nI 0)) (pc1 := 1) (pc := 0) k_M_trodden_0 rfl (by decide) ?_
        | refine T_istore_n (pc1 := 2) (pc := 1) k_M_trodden_1 rfl (Nat.le_of_ble_eq_true rfl) ?_
        | refine T_iconst (v := (nI 0)) (pc1 := 3) (pc := 2) k_M_trodden_2 rfl (by decide) ?_
        | refine T_istore_n (pc1 := 4) (pc := 3) k_M_trodden_3 rfl (Nat.le_of_ble_eq_true rfl) ?_
        | refine T_iload_n (pc1 := 5) (pc := 4) k_M_trodden_4 rfl rfl ?_
        | refine T_aload_n (pc1 := 6) (pc := 5) k_M_trodden_5 rfl rfl ?_
        | refine T_aload_nN (pc1 := 6) (pc := 5) k_M_trodden_5 rfl rfl ?_
        | refine T_getR (pc1 := 9) (pc := 6) k_M_trodden_6 rfl f_M_9 rfl (by first | exact ga G (by decide) rfl | assumption) (by first | exact gr G (by decide) rfl | assumption) ?_
        | refine T_iconst (v := (nI 5)) (pc1 := 10) (pc := 9) k_M_trodden_9 rfl (by decide) ?_
        | refine T_ialdN (pc1 := 11) (pc := 10) k_M_trodden_10 rfl (by first | exact ga G (by decide) rfl | assumption) (by omega) (by omega) (by first | assumption | (simp (disch := omega) only [pI_eq, pI_row, pI_col, va_up_self, va_up_ne, ne_eq, not_false_eq_true, hN, hn] <;> rfl) | rfl) ?_
        | refine T_iald (pc1 := 11) (pc := 10) k_M_trodden_10 rfl (by first | exact ga G (by decide) rfl | assumption) (by assumption) ?_
        | (with_reducible refine T_icmp_geN (tgt := 29) (pc1 := 14) (pc := 11) k_M_trodden_11 (by decide) (by decide) (by omega) (by omega) (fun hc => ?_) (fun hc => ?_) <;> first | (exfalso; omega) | skip)
        | refine T_icmp_ge_t (tgt := 29) (pc := 11) k_M_trodden_11 rfl (by decide) ?_
        | refine T_icmp_ge_f (tgt := 29) (pc1 := 14) (pc := 11) k_M_trodden_11 rfl rfl (by decide) ?_
        | refine T_icmp_ge (tgt := 29) (pc1 := 14) (pc := 11) k_M_trodden_11 rfl rfl (fun hc => ?_) (fun hc => ?_)
        | refine T_iload_n (pc1 := 15) (pc := 14) k_M_trodden_14 rfl rfl ?_
        | refine T_aload_n (pc1 := 16) (pc := 15) k_M_trodden_15 rfl rfl ?_
        | refine T_aload_nN (pc1 := 16) (pc := 15) k_M_trodden_15 rfl rfl ?_
        | refine T_iload_n (pc1 := 17) (pc := 16) k_M_trodden_16 rfl rfl ?_
        | refine T_iconst (v := (nI 4)) (pc1 := 18) (pc := 17) k_M_trodden_17 rfl (by decide) ?_
        | (refine T_cV (As := [_, _]) (d1 := 1) (pc1 := 21) (pc := 18) k_M_trodden_18 rfl (by decide) (Nat.le_of_ble_eq_true rfl) rfl o_M_bitIs l_M_124 rfl (by first | exact ga G (by decide) rfl | assumption) rfl (c_M_bitN G (by assumption) (by omega) (by omega) (by first | assumption | rfl) ?_) <;> try dsimp only [psh])
        | with_reducible refine T_iaddN (pc1 := 22) (pc := 21) k_M_trodden_21 (by decide) ?_
        | refine T_iadd (pc1 := 22) (pc := 21) k_M_trodden_21 rfl ?_
        | refine T_istore_n (pc1 := 23) (pc := 22) k_M_trodden_22 rfl (Nat.le_of_ble_eq_true rfl) ?_
        | refine T_iincN (b := 1) (pc1 := 26) (pc := 23) k_M_trodden_23 rfl rfl (by decide) ?_
        | refine T_iinc (v := (nI 1)) (pc1 := 26) (pc := 23) k_M_trodden_23 rfl rfl (by decide) ?_
        | refine T_goto (tgt := 4) (pc := 26) k_M_trodden_26 rfl ?_
        | refine T_iload_n (pc1 := 30) (pc := 29) k_M_trodden_29 rfl rfl ?_
        | refine T_retI (pc := 30) k_M_trodden_30 rfl (by first | rfl | decide | assumption) ?_)
      exact kk
    | succ q ih =>
      intro b hb
      have ih := ih (b + 1) (by omega)
      rw [trdS] at ih
      generalize trdS N b = A at *
      refine T_iload_n (pc1 := 5) (pc := 4) k_M_trodden_4 rfl rfl ?_
      repeat' (first
        | refine T_iconst (v := (nI 0)) (pc1 := 1) (pc := 0) k_M_trodden_0 rfl (by decide) ?_
        | refine T_istore_n (pc1 := 2) (pc := 1) k_M_trodden_1 rfl (Nat.le_of_ble_eq_true rfl) ?_
        | refine T_iconst (v := (nI 0)) (pc1 := 3) (pc := 2) k_M_trodden_2 rfl (by decide) ?_
        | refine T_istore_n (pc1 := 4) (pc := 3) k_M_trodden_3 rfl (Nat.le_of_ble_eq_true rfl) ?_
        | refine T_aload_n (pc1 := 6) (pc := 5) k_M_trodden_5 rfl rfl ?_
        | refine T_aload_nN (pc1 := 6) (pc := 5) k_M_trodden_5 rfl rfl ?_
        | refine T_getR (pc1 := 9) (pc := 6) k_M_trodden_6 rfl f_M_9 rfl (by first | exact ga G (by decide) rfl | assumption) (by first | exact gr G (by decide) rfl | assumption) ?_
        | refine T_iconst (v := (nI 5)) (pc1 := 10) (pc := 9) k_M_trodden_9 rfl (by decide) ?_
        | refine T_ialdN (pc1 := 11) (pc := 10) k_M_trodden_10 rfl (by first | exact ga G (by decide) rfl | assumption) (by omega) (by omega) (by first | assumption | (simp (disch := omega) only [pI_eq, pI_row, pI_col, va_up_self, va_up_ne, ne_eq, not_false_eq_true, hN, hn] <;> rfl) | rfl) ?_
        | refine T_iald (pc1 := 11) (pc := 10) k_M_trodden_10 rfl (by first | exact ga G (by decide) rfl | assumption) (by assumption) ?_
        | (with_reducible refine T_icmp_geN (tgt := 29) (pc1 := 14) (pc := 11) k_M_trodden_11 (by decide) (by decide) (by omega) (by omega) (fun hc => ?_) (fun hc => ?_) <;> first | (exfalso; omega) | skip)
        | refine T_icmp_ge_t (tgt := 29) (pc := 11) k_M_trodden_11 rfl (by decide) ?_
        | refine T_icmp_ge_f (tgt := 29) (pc1 := 14) (pc := 11) k_M_trodden_11 rfl rfl (by decide) ?_
        | refine T_icmp_ge (tgt := 29) (pc1 := 14) (pc := 11) k_M_trodden_11 rfl rfl (fun hc => ?_) (fun hc => ?_)
        | refine T_iload_n (pc1 := 15) (pc := 14) k_M_trodden_14 rfl rfl ?_
        | refine T_aload_n (pc1 := 16) (pc := 15) k_M_trodden_15 rfl rfl ?_
        | refine T_aload_nN (pc1 := 16) (pc := 15) k_M_trodden_15 rfl rfl ?_
        | refine T_iload_n (pc1 := 17) (pc := 16) k_M_trodden_16 rfl rfl ?_
        | refine T_iconst (v := (nI 4)) (pc1 := 18) (pc := 17) k_M_trodden_17 rfl (by decide) ?_
        | (refine T_cV (As := [_, _]) (d1 := 1) (pc1 := 21) (pc := 18) k_M_trodden_18 rfl (by decide) (Nat.le_of_ble_eq_true rfl) rfl o_M_bitIs l_M_124 rfl (by first | exact ga G (by decide) rfl | assumption) rfl (c_M_bitN G (by assumption) (by omega) (by omega) (by first | assumption | rfl) ?_) <;> try dsimp only [psh])
        | with_reducible refine T_iaddN (pc1 := 22) (pc := 21) k_M_trodden_21 (by decide) ?_
        | refine T_iadd (pc1 := 22) (pc := 21) k_M_trodden_21 rfl ?_
        | refine T_istore_n (pc1 := 23) (pc := 22) k_M_trodden_22 rfl (Nat.le_of_ble_eq_true rfl) ?_
        | refine T_iincN (b := 1) (pc1 := 26) (pc := 23) k_M_trodden_23 rfl rfl (by decide) ?_
        | refine T_iinc (v := (nI 1)) (pc1 := 26) (pc := 23) k_M_trodden_23 rfl rfl (by decide) ?_
        | refine T_goto (tgt := 4) (pc := 26) k_M_trodden_26 rfl ?_
        | refine T_iload_n (pc1 := 30) (pc := 29) k_M_trodden_29 rfl rfl ?_
        | refine T_retI (pc := 30) k_M_trodden_30 rfl (by first | rfl | decide | assumption) ?_)
      exact ih
  repeat' (first
    | refine T_iconst (v := (nI 0)) (pc1 := 1) (pc := 0) k_M_trodden_0 rfl (by decide) ?_
    | refine T_istore_n (pc1 := 2) (pc := 1) k_M_trodden_1 rfl (Nat.le_of_ble_eq_true rfl) ?_
    | refine T_iconst (v := (nI 0)) (pc1 := 3) (pc := 2) k_M_trodden_2 rfl (by decide) ?_
    | refine T_istore_n (pc1 := 4) (pc := 3) k_M_trodden_3 rfl (Nat.le_of_ble_eq_true rfl) ?_
    | refine T_aload_n (pc1 := 6) (pc := 5) k_M_trodden_5 rfl rfl ?_
    | refine T_aload_nN (pc1 := 6) (pc := 5) k_M_trodden_5 rfl rfl ?_
    | refine T_getR (pc1 := 9) (pc := 6) k_M_trodden_6 rfl f_M_9 rfl (by first | exact ga G (by decide) rfl | assumption) (by first | exact gr G (by decide) rfl | assumption) ?_
    | refine T_iconst (v := (nI 5)) (pc1 := 10) (pc := 9) k_M_trodden_9 rfl (by decide) ?_
    | refine T_ialdN (pc1 := 11) (pc := 10) k_M_trodden_10 rfl (by first | exact ga G (by decide) rfl | assumption) (by omega) (by omega) (by first | assumption | (simp (disch := omega) only [pI_eq, pI_row, pI_col, va_up_self, va_up_ne, ne_eq, not_false_eq_true, hN, hn] <;> rfl) | rfl) ?_
    | refine T_iald (pc1 := 11) (pc := 10) k_M_trodden_10 rfl (by first | exact ga G (by decide) rfl | assumption) (by assumption) ?_
    | (with_reducible refine T_icmp_geN (tgt := 29) (pc1 := 14) (pc := 11) k_M_trodden_11 (by decide) (by decide) (by omega) (by omega) (fun hc => ?_) (fun hc => ?_) <;> first | (exfalso; omega) | skip)
    | refine T_icmp_ge_t (tgt := 29) (pc := 11) k_M_trodden_11 rfl (by decide) ?_
    | refine T_icmp_ge_f (tgt := 29) (pc1 := 14) (pc := 11) k_M_trodden_11 rfl rfl (by decide) ?_
    | refine T_icmp_ge (tgt := 29) (pc1 := 14) (pc := 11) k_M_trodden_11 rfl rfl (fun hc => ?_) (fun hc => ?_)
    | refine T_iload_n (pc1 := 15) (pc := 14) k_M_trodden_14 rfl rfl ?_
    | refine T_aload_n (pc1 := 16) (pc := 15) k_M_trodden_15 rfl rfl ?_
    | refine T_aload_nN (pc1 := 16) (pc := 15) k_M_trodden_15 rfl rfl ?_
    | refine T_iload_n (pc1 := 17) (pc := 16) k_M_trodden_16 rfl rfl ?_
    | refine T_iconst (v := (nI 4)) (pc1 := 18) (pc := 17) k_M_trodden_17 rfl (by decide) ?_
    | (refine T_cV (As := [_, _]) (d1 := 1) (pc1 := 21) (pc := 18) k_M_trodden_18 rfl (by decide) (Nat.le_of_ble_eq_true rfl) rfl o_M_bitIs l_M_124 rfl (by first | exact ga G (by decide) rfl | assumption) rfl (c_M_bitN G (by assumption) (by omega) (by omega) (by first | assumption | rfl) ?_) <;> try dsimp only [psh])
    | with_reducible refine T_iaddN (pc1 := 22) (pc := 21) k_M_trodden_21 (by decide) ?_
    | refine T_iadd (pc1 := 22) (pc := 21) k_M_trodden_21 rfl ?_
    | refine T_istore_n (pc1 := 23) (pc := 22) k_M_trodden_22 rfl (Nat.le_of_ble_eq_true rfl) ?_
    | refine T_iincN (b := 1) (pc1 := 26) (pc := 23) k_M_trodden_23 rfl rfl (by decide) ?_
    | refine T_iinc (v := (nI 1)) (pc1 := 26) (pc := 23) k_M_trodden_23 rfl rfl (by decide) ?_
    | refine T_goto (tgt := 4) (pc := 26) k_M_trodden_26 rfl ?_
    | refine T_iload_n (pc1 := 30) (pc := 29) k_M_trodden_29 rfl rfl ?_
    | refine T_retI (pc := 30) k_M_trodden_30 rfl (by first | rfl | decide | assumption) ?_)
  exact loop n 0 (by omega)
theorem cpy_eq {n : Nat} {f h : Row} (e : ∀ k, n ≤ k → f k = h k) : cpy n f h = f := by
  funext k
  unfold cpy
  by_cases hk : k < n
  · rw [if_pos hk]
  · rw [if_neg hk]; exact (e k (by omega)).symm
theorem c_M_keep {N : Row} {n : Nat} (G : GeoOK g) (hN : I 102 = N) (hn : N 5 = nI n) (hz : ∀ k, 1556 ≤ k → N k = I 103 k) (kk : ∀ J, eqx [101, 103] I J → J 103 = N → J 101 = va_up (I 101) 2 (nI 1) → K (some (.int (nI n))) g J) : Cl 2 M_M_keep [.ref 101] g I K := by
  show Rl 2 M_M_keep 0 [some (.ref 101)] [] g I K
  have h5 : pI (va_up I 103 (cpy 1556 (I 102) (I 103))) 101 2 (nI 1) 102 5 = nI n := by rw [pI_rw (by decide), va_up_ne _ _ (by decide), hN]; exact hn
  repeat' (first
    | refine T_aload_n (pc1 := 1) (pc := 0) k_M_keep_0 rfl rfl ?_
    | refine T_aload_nN (pc1 := 1) (pc := 0) k_M_keep_0 rfl rfl ?_
    | refine T_getR (pc1 := 4) (pc := 1) k_M_keep_1 rfl f_M_9 rfl (by first | exact ga G (by decide) rfl | assumption) (by first | exact gr G (by decide) rfl | assumption) ?_
    | refine T_aload_n (pc1 := 5) (pc := 4) k_M_keep_4 rfl rfl ?_
    | refine T_aload_nN (pc1 := 5) (pc := 4) k_M_keep_4 rfl rfl ?_
    | refine T_getR (pc1 := 8) (pc := 5) k_M_keep_5 rfl f_M_13 rfl (by first | exact ga G (by decide) rfl | assumption) (by first | exact gr G (by decide) rfl | assumption) ?_
    | refine T_sipush (v := (nI 1556)) (pc1 := 11) (pc := 8) k_M_keep_8 rfl (by decide) ?_
    | (refine T_cS (As := [_, _, _]) (d1 := 1) (pc1 := 14) (pc := 11) k_M_keep_11 rfl (by decide) (Nat.le_of_ble_eq_true rfl) rfl o_M_copyRow l_M_91 rfl (c_M_copyRow (ga G (by decide) rfl) (ga G (by decide) rfl) (by omega) (by omega) (by omega) (by omega) (by decide) ?_) <;> try dsimp only [psh])
    | refine T_aload_n (pc1 := 15) (pc := 14) k_M_keep_14 rfl rfl ?_
    | refine T_aload_nN (pc1 := 15) (pc := 14) k_M_keep_14 rfl rfl ?_
    | refine T_iconst (v := (nI 1)) (pc1 := 16) (pc := 15) k_M_keep_15 rfl (by decide) ?_
    | refine T_putI (pc1 := 19) (pc := 16) k_M_keep_16 rfl f_M_310 rfl (by first | exact ga G (by decide) rfl | assumption) (by first | rfl | decide | assumption) (by first | rfl | decide | assumption) ?_
    | refine T_aload_n (pc1 := 20) (pc := 19) k_M_keep_19 rfl rfl ?_
    | refine T_aload_nN (pc1 := 20) (pc := 19) k_M_keep_19 rfl rfl ?_
    | refine T_getR (pc1 := 23) (pc := 20) k_M_keep_20 rfl f_M_9 rfl (by first | exact ga G (by decide) rfl | assumption) (by first | exact gr G (by decide) rfl | assumption) ?_
    | refine T_iconst (v := (nI 5)) (pc1 := 24) (pc := 23) k_M_keep_23 rfl (by decide) ?_
    | refine T_ialdN (pc1 := 25) (pc := 24) k_M_keep_24 rfl (by first | exact ga G (by decide) rfl | assumption) (by omega) (by omega) (by first | assumption | (simp (disch := omega) only [pI_eq, pI_row, pI_col, va_up_self, va_up_ne, ne_eq, not_false_eq_true] <;> rfl) | rfl) ?_
    | refine T_iald (pc1 := 25) (pc := 24) k_M_keep_24 rfl (by first | exact ga G (by decide) rfl | assumption) (by assumption) ?_
    | refine T_retI (pc := 25) k_M_keep_25 rfl (by first | rfl | decide | assumption) ?_)
  refine kk _ (eqx_pI (eqx_up eqx_rf _ (by decide)) _ (by decide)) ?_ ?_
  · rw [pI_rw (by decide), va_up_self, hN, cpy_eq hz]
  · rw [pI_self, va_up_ne _ _ (by decide)]
theorem c_M_back0 (G : GeoOK g) (h : I 101 2 = nI 0) (kk : K (some (.int cNO)) g I) : Cl 2 M_M_back [.ref 101] g I K := by
  show Rl 2 M_M_back 0 [some (.ref 101)] [] g I K
  repeat' (first
    | refine T_aload_n (pc1 := 1) (pc := 0) k_M_back_0 rfl rfl ?_
    | refine T_aload_nN (pc1 := 1) (pc := 0) k_M_back_0 rfl rfl ?_
    | refine T_getV (pc1 := 4) (pc := 1) k_M_back_1 rfl f_M_310 rfl (by first | exact ga G (by decide) rfl | assumption) (by first | assumption | (simp (disch := omega) only [pI_eq, pI_row, pI_col, va_up_self, va_up_ne, ne_eq, not_false_eq_true] <;> rfl) | rfl) ?_
    | (with_reducible refine T_if_neN (tgt := 11) (pc1 := 7) (pc := 4) k_M_back_4 (by decide) (by decide) (by omega) (fun hc => ?_) (fun hc => ?_) <;> first | (exfalso; omega) | skip)
    | refine T_if_ne_t (tgt := 11) (pc := 4) k_M_back_4 rfl (by decide) ?_
    | refine T_if_ne_f (tgt := 11) (pc1 := 7) (pc := 4) k_M_back_4 rfl rfl (by decide) ?_
    | refine T_if_ne (tgt := 11) (pc1 := 7) (pc := 4) k_M_back_4 rfl rfl (fun hc => ?_) (fun hc => ?_)
    | refine T_ldcw (v := (-1000000002)) (pc1 := 10) (pc := 7) k_M_back_7 rfl c_M_306 ?_
    | refine T_retI (pc := 10) k_M_back_10 rfl (by first | rfl | decide | assumption) ?_)
  exact kk
theorem c_M_back1 {M : Row} {m : Nat} (G : GeoOK g) (h : I 101 2 = nI 1) (hM : I 103 = M) (hm : M 5 = nI m) (hz : ∀ k, 1556 ≤ k → M k = I 102 k) (kk : ∀ J, eqx [102] I J → J 102 = M → K (some (.int (nI m))) g J) : Cl 2 M_M_back [.ref 101] g I K := by
  show Rl 2 M_M_back 0 [some (.ref 101)] [] g I K
  have h5 : va_up I 102 (cpy 1556 (I 103) (I 102)) 102 5 = nI m := by rw [va_up_self, cpy, if_pos (by decide), hM]; exact hm
  repeat' (first
    | refine T_aload_n (pc1 := 1) (pc := 0) k_M_back_0 rfl rfl ?_
    | refine T_aload_nN (pc1 := 1) (pc := 0) k_M_back_0 rfl rfl ?_
    | refine T_getV (pc1 := 4) (pc := 1) k_M_back_1 rfl f_M_310 rfl (by first | exact ga G (by decide) rfl | assumption) (by first | assumption | (simp (disch := omega) only [pI_eq, pI_row, pI_col, va_up_self, va_up_ne, ne_eq, not_false_eq_true] <;> rfl) | rfl) ?_
    | (with_reducible refine T_if_neN (tgt := 11) (pc1 := 7) (pc := 4) k_M_back_4 (by decide) (by decide) (by omega) (fun hc => ?_) (fun hc => ?_) <;> first | (exfalso; omega) | skip)
    | refine T_if_ne_t (tgt := 11) (pc := 4) k_M_back_4 rfl (by decide) ?_
    | refine T_if_ne_f (tgt := 11) (pc1 := 7) (pc := 4) k_M_back_4 rfl rfl (by decide) ?_
    | refine T_if_ne (tgt := 11) (pc1 := 7) (pc := 4) k_M_back_4 rfl rfl (fun hc => ?_) (fun hc => ?_)
    | refine T_ldcw (v := (-1000000002)) (pc1 := 10) (pc := 7) k_M_back_7 rfl c_M_306 ?_
    | refine T_retI (pc := 10) k_M_back_10 rfl (by first | rfl | decide | assumption) ?_
    | refine T_aload_n (pc1 := 12) (pc := 11) k_M_back_11 rfl rfl ?_
    | refine T_aload_nN (pc1 := 12) (pc := 11) k_M_back_11 rfl rfl ?_
    | refine T_getR (pc1 := 15) (pc := 12) k_M_back_12 rfl f_M_13 rfl (by first | exact ga G (by decide) rfl | assumption) (by first | exact gr G (by decide) rfl | assumption) ?_
    | refine T_aload_n (pc1 := 16) (pc := 15) k_M_back_15 rfl rfl ?_
    | refine T_aload_nN (pc1 := 16) (pc := 15) k_M_back_15 rfl rfl ?_
    | refine T_getR (pc1 := 19) (pc := 16) k_M_back_16 rfl f_M_9 rfl (by first | exact ga G (by decide) rfl | assumption) (by first | exact gr G (by decide) rfl | assumption) ?_
    | refine T_sipush (v := (nI 1556)) (pc1 := 22) (pc := 19) k_M_back_19 rfl (by decide) ?_
    | (refine T_cS (As := [_, _, _]) (d1 := 1) (pc1 := 25) (pc := 22) k_M_back_22 rfl (by decide) (Nat.le_of_ble_eq_true rfl) rfl o_M_copyRow l_M_91 rfl (c_M_copyRow (ga G (by decide) rfl) (ga G (by decide) rfl) (by omega) (by omega) (by omega) (by omega) (by decide) ?_) <;> try dsimp only [psh])
    | refine T_aload_n (pc1 := 26) (pc := 25) k_M_back_25 rfl rfl ?_
    | refine T_aload_nN (pc1 := 26) (pc := 25) k_M_back_25 rfl rfl ?_
    | refine T_getR (pc1 := 29) (pc := 26) k_M_back_26 rfl f_M_9 rfl (by first | exact ga G (by decide) rfl | assumption) (by first | exact gr G (by decide) rfl | assumption) ?_
    | refine T_iconst (v := (nI 5)) (pc1 := 30) (pc := 29) k_M_back_29 rfl (by decide) ?_
    | refine T_ialdN (pc1 := 31) (pc := 30) k_M_back_30 rfl (by first | exact ga G (by decide) rfl | assumption) (by omega) (by omega) (by first | assumption | (simp (disch := omega) only [pI_eq, pI_row, pI_col, va_up_self, va_up_ne, ne_eq, not_false_eq_true] <;> rfl) | rfl) ?_
    | refine T_iald (pc1 := 31) (pc := 30) k_M_back_30 rfl (by first | exact ga G (by decide) rfl | assumption) (by assumption) ?_
    | refine T_retI (pc := 31) k_M_back_31 rfl (by first | rfl | decide | assumption) ?_)
  exact kk _ (eqx_up eqx_rf _ (by decide)) (by rw [va_up_self, hM, cpy_eq hz])
theorem c_M_rest {Th He : Row} {sl n : Int32} (G : GeoOK g) (hTh : I 118 = Th) (hHe : I 119 = He) (okh : okH Th He) (kk : ∀ r, r = restA Th He sl n → K (some (.int r)) g I) : Cl 3 M_M_rest [.ref 101, .int sl, .int n] g I K := by
  show Rl 3 M_M_rest 0 [some (.ref 101), some (.int sl), some (.int n)] [] g I K
  unfold restA at kk
  by_cases hs : rg 5 sl
  · rw [if_pos hs] at kk
    obtain ⟨s, hs5, rfl⟩ := rg_of hs (by omega)
    rw [nI_clamp (by omega)] at kk
    have e : I 119 (25 * s) = He (25 * s) := by rw [hHe]
    rcases okh s hs5 with h | ⟨h, -⟩ | ⟨h, -⟩ | h
    all_goals
      rw [h] at kk
      repeat' (first
        | refine T_iload_n (pc1 := 1) (pc := 0) k_M_rest_0 rfl rfl ?_
        | (refine T_cS (As := [_]) (d1 := 2) (pc1 := 4) (pc := 1) k_M_rest_1 rfl (by decide) (Nat.le_of_ble_eq_true rfl) rfl o_M_isSlot l_M_300 rfl (c_M_isSlot (fun hw => ?_) (fun hw => ?_)) <;> try dsimp only [psh])
        | (with_reducible refine T_if_neN (tgt := 10) (pc1 := 7) (pc := 4) k_M_rest_4 (by decide) (by decide) (by omega) (fun hc => ?_) (fun hc => ?_) <;> first | (exfalso; omega) | skip)
        | refine T_if_ne_t (tgt := 10) (pc := 4) k_M_rest_4 rfl (by decide) ?_
        | refine T_if_ne_f (tgt := 10) (pc1 := 7) (pc := 4) k_M_rest_4 rfl rfl (by decide) ?_
        | refine T_if_ne (tgt := 10) (pc1 := 7) (pc := 4) k_M_rest_4 rfl rfl (fun hc => ?_) (fun hc => ?_)
        | refine T_ldc (v := (-1000000001)) (pc1 := 9) (pc := 7) k_M_rest_7 rfl c_M_111 ?_
        | refine T_retI (pc := 9) k_M_rest_9 rfl (by first | rfl | decide | assumption) ?_
        | refine T_aload_n (pc1 := 11) (pc := 10) k_M_rest_10 rfl rfl ?_
        | refine T_aload_nN (pc1 := 11) (pc := 10) k_M_rest_10 rfl rfl ?_
        | refine T_getR (pc1 := 14) (pc := 11) k_M_rest_11 rfl f_M_73 rfl (by first | exact ga G (by decide) rfl | assumption) (by first | exact gr G (by decide) rfl | assumption) ?_
        | refine T_iload_n (pc1 := 15) (pc := 14) k_M_rest_14 rfl rfl ?_
        | refine T_ialdN (pc1 := 16) (pc := 15) k_M_rest_15 rfl (by first | exact ga G (by decide) rfl | assumption) (by omega) (by omega) (by first | assumption | (simp (disch := omega) only [pI_eq, pI_row, pI_col, va_up_self, va_up_ne, ne_eq, not_false_eq_true, hTh, h] <;> rfl) | rfl) ?_
        | refine T_iald (pc1 := 16) (pc := 15) k_M_rest_15 rfl (by first | exact ga G (by decide) rfl | assumption) (by assumption) ?_
        | (with_reducible refine T_if_neN (tgt := 22) (pc1 := 19) (pc := 16) k_M_rest_16 (by decide) (by decide) (by omega) (fun hc => ?_) (fun hc => ?_) <;> first | (exfalso; omega) | skip)
        | refine T_if_ne_t (tgt := 22) (pc := 16) k_M_rest_16 rfl (by decide) ?_
        | refine T_if_ne_f (tgt := 22) (pc1 := 19) (pc := 16) k_M_rest_16 rfl rfl (by decide) ?_
        | refine T_if_ne (tgt := 22) (pc1 := 19) (pc := 16) k_M_rest_16 rfl rfl (fun hc => ?_) (fun hc => ?_)
        | refine T_ldc (v := (-1000000011)) (pc1 := 21) (pc := 19) k_M_rest_19 rfl c_M_196 ?_
        | refine T_retI (pc := 21) k_M_rest_21 rfl (by first | rfl | decide | assumption) ?_
        | refine T_aload_n (pc1 := 23) (pc := 22) k_M_rest_22 rfl rfl ?_
        | refine T_aload_nN (pc1 := 23) (pc := 22) k_M_rest_22 rfl rfl ?_
        | refine T_getR (pc1 := 26) (pc := 23) k_M_rest_23 rfl f_M_73 rfl (by first | exact ga G (by decide) rfl | assumption) (by first | exact gr G (by decide) rfl | assumption) ?_
        | refine T_iload_n (pc1 := 27) (pc := 26) k_M_rest_26 rfl rfl ?_
        | refine T_ialdN (pc1 := 28) (pc := 27) k_M_rest_27 rfl (by first | exact ga G (by decide) rfl | assumption) (by omega) (by omega) (by first | assumption | (simp (disch := omega) only [pI_eq, pI_row, pI_col, va_up_self, va_up_ne, ne_eq, not_false_eq_true, hTh, h] <;> rfl) | rfl) ?_
        | refine T_iald (pc1 := 28) (pc := 27) k_M_rest_27 rfl (by first | exact ga G (by decide) rfl | assumption) (by assumption) ?_
        | refine T_iconst (v := (nI 3)) (pc1 := 29) (pc := 28) k_M_rest_28 rfl (by decide) ?_
        | (with_reducible refine T_icmp_eqN (tgt := 35) (pc1 := 32) (pc := 29) k_M_rest_29 (by decide) (by decide) (by omega) (by omega) (fun hc => ?_) (fun hc => ?_) <;> first | (exfalso; omega) | skip)
        | refine T_icmp_eq_t (tgt := 35) (pc := 29) k_M_rest_29 rfl (by decide) ?_
        | refine T_icmp_eq_f (tgt := 35) (pc1 := 32) (pc := 29) k_M_rest_29 rfl rfl (by decide) ?_
        | refine T_icmp_eq (tgt := 35) (pc1 := 32) (pc := 29) k_M_rest_29 rfl rfl (fun hc => ?_) (fun hc => ?_)
        | refine T_ldc (v := (-1000000012)) (pc1 := 34) (pc := 32) k_M_rest_32 rfl c_M_155 ?_
        | refine T_retI (pc := 34) k_M_rest_34 rfl (by first | rfl | decide | assumption) ?_
        | refine T_iload_n (pc1 := 36) (pc := 35) k_M_rest_35 rfl rfl ?_
        | (with_reducible refine T_if_neN (tgt := 45) (pc1 := 39) (pc := 36) k_M_rest_36 (by decide) (by decide) (by omega) (fun hc => ?_) (fun hc => ?_) <;> first | (exfalso; omega) | skip)
        | refine T_if_ne_t (tgt := 45) (pc := 36) k_M_rest_36 rfl (by decide) ?_
        | refine T_if_ne_f (tgt := 45) (pc1 := 39) (pc := 36) k_M_rest_36 rfl rfl (by decide) ?_
        | refine T_if_ne (tgt := 45) (pc1 := 39) (pc := 36) k_M_rest_36 rfl rfl (fun hc => ?_) (fun hc => ?_)
        | refine T_ldcw (v := (-1000000002)) (pc1 := 42) (pc := 39) k_M_rest_39 rfl c_M_306 ?_
        | refine T_goto (tgt := 56) (pc := 42) k_M_rest_42 rfl ?_
        | refine T_aload_n (pc1 := 46) (pc := 45) k_M_rest_45 rfl rfl ?_
        | refine T_aload_nN (pc1 := 46) (pc := 45) k_M_rest_45 rfl rfl ?_
        | refine T_getR (pc1 := 49) (pc := 46) k_M_rest_46 rfl f_M_76 rfl (by first | exact ga G (by decide) rfl | assumption) (by first | exact gr G (by decide) rfl | assumption) ?_
        | refine T_bipush (v := (nI 25)) (pc1 := 51) (pc := 49) k_M_rest_49 rfl (by decide) ?_
        | refine T_iload_n (pc1 := 52) (pc := 51) k_M_rest_51 rfl rfl ?_
        | with_reducible refine T_imulN (pc1 := 53) (pc := 52) k_M_rest_52 (by decide) ?_
        | refine T_imul (pc1 := 53) (pc := 52) k_M_rest_52 rfl ?_
        | refine T_ialdN (pc1 := 54) (pc := 53) k_M_rest_53 rfl (by first | exact ga G (by decide) rfl | assumption) (by omega) (by omega) (by first | assumption | (simp (disch := omega) only [pI_eq, pI_row, pI_col, va_up_self, va_up_ne, ne_eq, not_false_eq_true, hTh, h] <;> rfl) | rfl) ?_
        | refine T_iald (pc1 := 54) (pc := 53) k_M_rest_53 rfl (by first | exact ga G (by decide) rfl | assumption) (by assumption) ?_
        | refine T_iload_n (pc1 := 55) (pc := 54) k_M_rest_54 rfl rfl ?_
        | with_reducible refine T_iremN (pc1 := 56) (pc := 55) k_M_rest_55 (by decide) (by omega) (by omega) (by omega) ?_
        | refine T_irem (pc1 := 56) (pc := 55) k_M_rest_55 rfl (by first | assumption | decide) ?_
        | refine T_retI (pc := 56) k_M_rest_56 rfl (by first | rfl | decide | assumption) ?_)
      all_goals first | exact kk _ rfl | contradiction | exact kk _ (by rw [if_neg (by decide), if_pos rfl, if_pos (Decidable.not_not.mp (by assumption))]) | exact kk _ (by rw [if_neg (by decide), if_pos rfl, if_neg (by assumption)])
  · rw [if_neg hs] at kk
    repeat' (first
      | refine T_iload_n (pc1 := 1) (pc := 0) k_M_rest_0 rfl rfl ?_
      | (refine T_cS (As := [_]) (d1 := 2) (pc1 := 4) (pc := 1) k_M_rest_1 rfl (by decide) (Nat.le_of_ble_eq_true rfl) rfl o_M_isSlot l_M_300 rfl (c_M_isSlot (fun hw => ?_) (fun hw => ?_)) <;> try dsimp only [psh])
      | (with_reducible refine T_if_neN (tgt := 10) (pc1 := 7) (pc := 4) k_M_rest_4 (by decide) (by decide) (by omega) (fun hc => ?_) (fun hc => ?_) <;> first | (exfalso; omega) | skip)
      | refine T_if_ne_t (tgt := 10) (pc := 4) k_M_rest_4 rfl (by decide) ?_
      | refine T_if_ne_f (tgt := 10) (pc1 := 7) (pc := 4) k_M_rest_4 rfl rfl (by decide) ?_
      | refine T_if_ne (tgt := 10) (pc1 := 7) (pc := 4) k_M_rest_4 rfl rfl (fun hc => ?_) (fun hc => ?_)
      | refine T_ldc (v := (-1000000001)) (pc1 := 9) (pc := 7) k_M_rest_7 rfl c_M_111 ?_
      | refine T_retI (pc := 9) k_M_rest_9 rfl (by first | rfl | decide | assumption) ?_)
    all_goals first | exact kk _ rfl | contradiction
end M17
