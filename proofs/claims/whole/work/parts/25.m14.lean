/-! The model: mark, pour, reads, copy. -/
section PU10
abbrev okMark (So Si : Row) (s p v : Int32) : Prop := rg 4 s ∧ ¬ So s.toNatClampNeg = -1 ∧ rg (Si s.toNatClampNeg).toNatClampNeg p ∧ ((So s.toNatClampNeg = nI 0 ∧ ¬ v = cNONE) ∨ (So s.toNatClampNeg = nI 1 ∧ (v = cNONE ∨ bt (-99999) 99999 v)))
def markA (So Si : Row) (s p v : Int32) : Int32 := if rg 4 s then (if So s.toNatClampNeg = -1 then cNOTHING else if rg (Si s.toNatClampNeg).toNatClampNeg p then (if So s.toNatClampNeg = nI 0 then (if v = cNONE then cKIND else nI 1) else if v = cNONE ∨ bt (-99999) 99999 v then nI 1 else cBAD) else cINDEX) else cBAD
def markP (So Si Pl : Row) (s p v : Int32) : Row := if okMark So Si s p v then va_up Pl (24 * s.toNatClampNeg + p.toNatClampNeg) (if So s.toNatClampNeg = nI 0 then v.toInt16.toInt32 else v) else Pl
theorem mark_bad {So Si Pl : Row} {s p v : Int32} (h : ¬ rg 4 s) : markA So Si s p v = cBAD ∧ markP So Si Pl s p v = Pl := ⟨by rw [markA, if_neg h], by rw [markP, if_neg (fun q => h q.1)]⟩
theorem mark_no {So Si Pl : Row} {j : Nat} {p v : Int32} (hj : j < 4) (h : So j = -1) : markA So Si (nI j) p v = cNOTHING ∧ markP So Si Pl (nI j) p v = Pl := by
  have e : (nI j).toNatClampNeg = j := nI_clamp (by omega)
  unfold markA markP okMark
  rw [e]
  exact ⟨by rw [if_pos (rg_nI hj (by omega)), if_pos h], by rw [if_neg (fun q => q.2.1 h)]⟩
theorem mark_ix {So Si Pl : Row} {j z : Nat} {p v : Int32} (hj : j < 4) (h : ¬ So j = -1) (h2 : Si j = nI z) (hz : z ≤ 24) (hp : ¬ rg z p) : markA So Si (nI j) p v = cINDEX ∧ markP So Si Pl (nI j) p v = Pl := by
  have e : (nI j).toNatClampNeg = j := nI_clamp (by omega)
  unfold markA markP okMark
  rw [e, h2, nI_clamp (by omega)]
  exact ⟨by rw [if_pos (rg_nI hj (by omega)), if_neg h, if_neg hp], by rw [if_neg (fun q => hp q.2.2.1)]⟩
theorem mark_0 {So Si Pl : Row} {j x z : Nat} {v : Int32} (hj : j < 4) (h1 : So j = nI 0) (h2 : Si j = nI z) (hz : z ≤ 24) (hx : x < z) : (¬ v = cNONE → markA So Si (nI j) (nI x) v = nI 1 ∧ markP So Si Pl (nI j) (nI x) v = va_up Pl (24 * j + x) v.toInt16.toInt32) ∧ (v = cNONE → markA So Si (nI j) (nI x) v = cKIND ∧ markP So Si Pl (nI j) (nI x) v = Pl) := by
  have e : (nI j).toNatClampNeg = j := nI_clamp (by omega)
  have ex : (nI x).toNatClampNeg = x := nI_clamp (by omega)
  have hr := rg_nI hj (by omega)
  have hr2 := rg_nI hx (by omega)
  unfold markA markP okMark
  rw [e, h2, nI_clamp (by omega), ex, h1]
  refine ⟨fun h => ⟨?_, ?_⟩, fun h => ⟨?_, ?_⟩⟩
  · rw [if_pos hr, if_neg (by decide), if_pos hr2, if_pos rfl, if_neg h]
  · rw [if_pos ⟨hr, by decide, hr2, Or.inl ⟨rfl, h⟩⟩, if_pos rfl]
  · rw [if_pos hr, if_neg (by decide), if_pos hr2, if_pos rfl, if_pos h]
  · rw [if_neg (fun q => by rcases q.2.2.2 with q | q; exact q.2 h; exact absurd q.1 (by decide))]
theorem mark_1 {So Si Pl : Row} {j x z : Nat} {v : Int32} (hj : j < 4) (h1 : So j = nI 1) (h2 : Si j = nI z) (hz : z ≤ 24) (hx : x < z) : ((v = cNONE ∨ bt (-99999) 99999 v) → markA So Si (nI j) (nI x) v = nI 1 ∧ markP So Si Pl (nI j) (nI x) v = va_up Pl (24 * j + x) v) ∧ (¬ (v = cNONE ∨ bt (-99999) 99999 v) → markA So Si (nI j) (nI x) v = cBAD ∧ markP So Si Pl (nI j) (nI x) v = Pl) := by
  have e : (nI j).toNatClampNeg = j := nI_clamp (by omega)
  have ex : (nI x).toNatClampNeg = x := nI_clamp (by omega)
  have hr := rg_nI hj (by omega)
  have hr2 := rg_nI hx (by omega)
  unfold markA markP okMark
  rw [e, h2, nI_clamp (by omega), ex, h1]
  refine ⟨fun h => ⟨?_, ?_⟩, fun h => ⟨?_, ?_⟩⟩
  · rw [if_pos hr, if_neg (by decide), if_pos hr2, if_neg (by decide), if_pos h]
  · rw [if_pos ⟨hr, by decide, hr2, Or.inr ⟨rfl, h⟩⟩, if_neg (by decide)]
  · rw [if_pos hr, if_neg (by decide), if_pos hr2, if_neg (by decide), if_neg h]
  · rw [if_neg (fun q => by rcases q.2.2.2 with q | q; exact absurd q.1 (by decide); exact h q.2)]
/-- what a bit is said to be behind a sheet's number -/
def prS (N v : Row) (b : Nat) : Int32 := if v b = cNONE then bf N b 5 else hld (nI 0) (nI 999) (v b)
def prN (N v : Row) : Nat → Row
  | 0 => N
  | b + 1 => va_up (prN N v b) (12 + 6 * b + 5) (prS N v b)
def prC (N v : Row) : Nat → Nat
  | 0 => 0
  | b + 1 => prC N v b + (if bf N b 5 = prS N v b then 0 else 1)
theorem prN_ne {N v : Row} {k : Nat} : ∀ b, (∀ j, j < b → k ≠ 12 + 6 * j + 5) → prN N v b k = N k
  | 0, _ => rfl
  | b + 1, h => by
    unfold prN
    rw [va_up_ne _ _ (h b (by omega))]
    exact prN_ne b (fun j hj => h j (by omega))
theorem prC_le (N v : Row) : ∀ b, prC N v b ≤ b
  | 0 => Nat.le_refl _
  | b + 1 => by
    have := prC_le N v b
    unfold prC
    split <;> omega
abbrev okPour (So : Row) (s : Int32) : Prop := rg 4 s ∧ ¬ So s.toNatClampNeg = -1
def pourM (n : Nat) (Si : Row) (s : Int32) : Nat := min n (Si s.toNatClampNeg).toNatClampNeg
def pourA (N : Row) (n : Nat) (So Si Pl : Row) (s : Int32) : Int32 := if rg 4 s then (if So s.toNatClampNeg = -1 then cNOTHING else nI (prC N (shv Pl s.toNatClampNeg) (pourM n Si s))) else cBAD
def pourN (N : Row) (n : Nat) (So Si Pl : Row) (s : Int32) : Row := if okPour So s then prN N (shv Pl s.toNatClampNeg) (pourM n Si s) else N
def rdP (N v : Row) (k : Nat) : Bool := decide (¬ v k = cNONE ∧ ((v k).toInt < 0 ∨ ¬ v k = trA N (nI k)))
def readsA (N So Si Pl : Row) (s : Int32) : Int32 := if rg 4 s then (if So s.toNatClampNeg = -1 then cNOTHING else oNo (lsq (rdP N (shv Pl s.toNatClampNeg)) 0 (Si s.toNatClampNeg).toNatClampNeg)) else cBAD
abbrev okRow (Si : Row) (s : Nat) (p m : Int32) : Prop := 0 ≤ p.toInt ∧ 0 ≤ m.toInt ∧ p.toInt + m.toInt ≤ (Si s).toInt
abbrev okCopy (So Si : Row) (f p t a m : Int32) : Prop := (rg 4 f ∧ rg 4 t) ∧ ¬ So f.toNatClampNeg = -1 ∧ ¬ So t.toNatClampNeg = -1 ∧ So f.toNatClampNeg = So t.toNatClampNeg ∧ okRow Si f.toNatClampNeg p m ∧ okRow Si t.toNatClampNeg a m
def copyA (So Si : Row) (f p t a m : Int32) : Int32 := if rg 4 f ∧ rg 4 t then (if So f.toNatClampNeg = -1 ∨ So t.toNatClampNeg = -1 then cNOTHING else if So f.toNatClampNeg = So t.toNatClampNeg then (if okRow Si f.toNatClampNeg p m ∧ okRow Si t.toNatClampNeg a m then m else cINDEX) else cKIND) else cBAD
def copyP (So Si Pl : Row) (f p t a m : Int32) : Row := if okCopy So Si f p t a m then va_cpy Pl Pl (24 * f.toNatClampNeg + p.toNatClampNeg) (24 * t.toNatClampNeg + a.toNatClampNeg) m.toNatClampNeg else Pl
theorem lcmp_le {x y z : Int32} : lg_cmp (x.toInt64 + y.toInt64) z.toInt64 ≤ 0 ↔ x.toInt + y.toInt ≤ z.toInt := by
  have e : (x.toInt64 + y.toInt64).toInt = x.toInt + y.toInt := by
    rw [Int64.toInt_add, Int32.toInt_toInt64, Int32.toInt_toInt64]
    have h1 := x.toInt_lt
    have h2 := x.le_toInt
    have h3 := y.toInt_lt
    have h4 := y.le_toInt
    rw [Int.bmod_eq_of_le] <;> omega
  have e2 : z.toInt64.toInt = z.toInt := Int32.toInt_toInt64 z
  unfold lg_cmp
  by_cases h1 : x.toInt64 + y.toInt64 > z.toInt64
  · rw [if_pos h1]
    have h1 : z.toInt64 < x.toInt64 + y.toInt64 := h1
    rw [Int64.lt_iff_toInt_lt, e, e2] at h1
    exact ⟨fun q => absurd q (by decide), fun q => by omega⟩
  · rw [if_neg h1]
    have h1 : ¬ z.toInt64 < x.toInt64 + y.toInt64 := h1
    rw [Int64.lt_iff_toInt_lt, e, e2] at h1
    refine ⟨fun _ => by omega, fun _ => ?_⟩
    split <;> decide
end PU10
section M14
variable {g : Geo} {I : IM} {K : Option Value → Geo → IM → Prop}
set_option maxHeartbeats 4000000 in
theorem c_M_mark {So Si Pl : Row} {s p v : Int32} (G : GeoOK g) (hSo : I 114 = So) (hSi : I 115 = Si) (hPl : I 116 = Pl) (oks : okS So Si) (kk : ∀ J r, eqx [116] I J → J 116 = markP So Si Pl s p v → r = markA So Si s p v → K (some (.int r)) g J) : Cl 3 M_M_mark [.ref 101, .int s, .int p, .int v] g I K := by
  show Rl 3 M_M_mark 0 [some (.ref 101), some (.int s), some (.int p), some (.int v)] [] g I K
  have e0 : (nI 0).toInt = 0 := rfl
  have ea : (-99999 : Int32).toInt = -99999 := rfl
  have eb : (nI 99999).toInt = 99999 := rfl
  by_cases hs : rg 4 s
  · obtain ⟨j, hj, rfl⟩ := rg_of hs (by omega)
    rcases oks j hj with ⟨h1, h2⟩ | ⟨h1, z, hz, h2⟩
    · obtain ⟨kA, kP⟩ := mark_no (So := So) (Si := Si) (Pl := Pl) (p := p) (v := v) hj h1
      rw [kA, kP] at kk
      repeat' (first
        | refine T_iload_n (pc1 := 1) (pc := 0) k_M_mark_0 rfl rfl ?_
        | (refine T_cS (As := [_]) (d1 := 2) (pc1 := 4) (pc := 1) k_M_mark_1 rfl (by decide) (Nat.le_of_ble_eq_true rfl) rfl o_M_isSheet l_M_193 rfl (c_M_isSheet (fun hw => ?_) (fun hw => ?_)) <;> try dsimp only [psh])
        | (with_reducible refine T_if_neN (tgt := 10) (pc1 := 7) (pc := 4) k_M_mark_4 (by decide) (by decide) (by omega) (fun hc => ?_) (fun hc => ?_) <;> first | (exfalso; omega) | skip)
        | refine T_if_ne_t (tgt := 10) (pc := 4) k_M_mark_4 rfl (by decide) ?_
        | refine T_if_ne_f (tgt := 10) (pc1 := 7) (pc := 4) k_M_mark_4 rfl rfl (by decide) ?_
        | refine T_if_ne (tgt := 10) (pc1 := 7) (pc := 4) k_M_mark_4 rfl rfl (fun hc => ?_) (fun hc => ?_)
        | refine T_ldc (v := (-1000000001)) (pc1 := 9) (pc := 7) k_M_mark_7 rfl c_M_111 ?_
        | refine T_retI (pc := 9) k_M_mark_9 rfl (by first | rfl | decide | assumption) ?_
        | refine T_aload_n (pc1 := 11) (pc := 10) k_M_mark_10 rfl rfl ?_
        | refine T_aload_nN (pc1 := 11) (pc := 10) k_M_mark_10 rfl rfl ?_
        | refine T_getR (pc1 := 14) (pc := 11) k_M_mark_11 rfl f_M_61 rfl (by first | exact ga G (by decide) rfl | assumption) (by first | exact gr G (by decide) rfl | assumption) ?_
        | refine T_iload_n (pc1 := 15) (pc := 14) k_M_mark_14 rfl rfl ?_
        | refine T_ialdN (pc1 := 16) (pc := 15) k_M_mark_15 rfl (by first | exact ga G (by decide) rfl | assumption) (by omega) (by omega) (by first | assumption | (simp (disch := omega) only [pI_eq, pI_row, pI_col, va_up_self, va_up_ne, ne_eq, not_false_eq_true, hSo, h1] <;> rfl) | rfl) ?_
        | refine T_iald (pc1 := 16) (pc := 15) k_M_mark_15 rfl (by first | exact ga G (by decide) rfl | assumption) (by assumption) ?_
        | (with_reducible refine T_if_geN (tgt := 22) (pc1 := 19) (pc := 16) k_M_mark_16 (by decide) (by decide) (by omega) ?_ <;> first | (exfalso; omega) | skip)
        | refine T_if_ge_t (tgt := 22) (pc := 16) k_M_mark_16 rfl (by decide) ?_
        | refine T_if_ge_f (tgt := 22) (pc1 := 19) (pc := 16) k_M_mark_16 rfl rfl (by decide) ?_
        | refine T_if_ge (tgt := 22) (pc1 := 19) (pc := 16) k_M_mark_16 rfl rfl (fun hc => ?_) (fun hc => ?_)
        | refine T_ldc (v := (-1000000011)) (pc1 := 21) (pc := 19) k_M_mark_19 rfl c_M_196 ?_
        | refine T_retI (pc := 21) k_M_mark_21 rfl (by first | rfl | decide | assumption) ?_)
      all_goals first | exact kk I _ eqx_rf hPl rfl | (exfalso; exact hw hs)
    · have es := sub1_toInt (n := z) (by omega)
      by_cases hp : rg z p
      · obtain ⟨x, hx, rfl⟩ := rg_of hp (by omega)
        have ex := nI_toInt (n := x) (by omega)
        rcases h1 with h1 | h1
        · obtain ⟨k1, k2⟩ := mark_0 (So := So) (Si := Si) (Pl := Pl) (v := v) hj h1 h2 hz hx
          repeat' (first
            | refine T_iload_n (pc1 := 1) (pc := 0) k_M_mark_0 rfl rfl ?_
            | (refine T_cS (As := [_]) (d1 := 2) (pc1 := 4) (pc := 1) k_M_mark_1 rfl (by decide) (Nat.le_of_ble_eq_true rfl) rfl o_M_isSheet l_M_193 rfl (c_M_isSheet (fun hw => ?_) (fun hw => ?_)) <;> try dsimp only [psh])
            | (with_reducible refine T_if_neN (tgt := 10) (pc1 := 7) (pc := 4) k_M_mark_4 (by decide) (by decide) (by omega) (fun hc => ?_) (fun hc => ?_) <;> first | (exfalso; omega) | skip)
            | refine T_if_ne_t (tgt := 10) (pc := 4) k_M_mark_4 rfl (by decide) ?_
            | refine T_if_ne_f (tgt := 10) (pc1 := 7) (pc := 4) k_M_mark_4 rfl rfl (by decide) ?_
            | refine T_if_ne (tgt := 10) (pc1 := 7) (pc := 4) k_M_mark_4 rfl rfl (fun hc => ?_) (fun hc => ?_)
            | refine T_ldc (v := (-1000000001)) (pc1 := 9) (pc := 7) k_M_mark_7 rfl c_M_111 ?_
            | refine T_retI (pc := 9) k_M_mark_9 rfl (by first | rfl | decide | assumption) ?_
            | refine T_aload_n (pc1 := 11) (pc := 10) k_M_mark_10 rfl rfl ?_
            | refine T_aload_nN (pc1 := 11) (pc := 10) k_M_mark_10 rfl rfl ?_
            | refine T_getR (pc1 := 14) (pc := 11) k_M_mark_11 rfl f_M_61 rfl (by first | exact ga G (by decide) rfl | assumption) (by first | exact gr G (by decide) rfl | assumption) ?_
            | refine T_iload_n (pc1 := 15) (pc := 14) k_M_mark_14 rfl rfl ?_
            | refine T_ialdN (pc1 := 16) (pc := 15) k_M_mark_15 rfl (by first | exact ga G (by decide) rfl | assumption) (by omega) (by omega) (by first | assumption | (simp (disch := omega) only [pI_eq, pI_row, pI_col, va_up_self, va_up_ne, ne_eq, not_false_eq_true, hSo, hSi, h1, h2] <;> rfl) | rfl) ?_
            | refine T_iald (pc1 := 16) (pc := 15) k_M_mark_15 rfl (by first | exact ga G (by decide) rfl | assumption) (by assumption) ?_
            | (with_reducible refine T_if_geN (tgt := 22) (pc1 := 19) (pc := 16) k_M_mark_16 (by decide) (by decide) (by omega) ?_ <;> first | (exfalso; omega) | skip)
            | refine T_if_ge_t (tgt := 22) (pc := 16) k_M_mark_16 rfl (by decide) ?_
            | refine T_if_ge_f (tgt := 22) (pc1 := 19) (pc := 16) k_M_mark_16 rfl rfl (by decide) ?_
            | refine T_if_ge (tgt := 22) (pc1 := 19) (pc := 16) k_M_mark_16 rfl rfl (fun hc => ?_) (fun hc => ?_)
            | refine T_ldc (v := (-1000000011)) (pc1 := 21) (pc := 19) k_M_mark_19 rfl c_M_196 ?_
            | refine T_retI (pc := 21) k_M_mark_21 rfl (by first | rfl | decide | assumption) ?_
            | refine T_iload_n (pc1 := 23) (pc := 22) k_M_mark_22 rfl rfl ?_
            | refine T_iconst (v := (nI 0)) (pc1 := 24) (pc := 23) k_M_mark_23 rfl (by decide) ?_
            | refine T_aload_n (pc1 := 25) (pc := 24) k_M_mark_24 rfl rfl ?_
            | refine T_aload_nN (pc1 := 25) (pc := 24) k_M_mark_24 rfl rfl ?_
            | refine T_getR (pc1 := 28) (pc := 25) k_M_mark_25 rfl f_M_64 rfl (by first | exact ga G (by decide) rfl | assumption) (by first | exact gr G (by decide) rfl | assumption) ?_
            | refine T_iload_n (pc1 := 29) (pc := 28) k_M_mark_28 rfl rfl ?_
            | refine T_ialdN (pc1 := 30) (pc := 29) k_M_mark_29 rfl (by first | exact ga G (by decide) rfl | assumption) (by omega) (by omega) (by first | assumption | (simp (disch := omega) only [pI_eq, pI_row, pI_col, va_up_self, va_up_ne, ne_eq, not_false_eq_true, hSo, hSi, h1, h2] <;> rfl) | rfl) ?_
            | refine T_iald (pc1 := 30) (pc := 29) k_M_mark_29 rfl (by first | exact ga G (by decide) rfl | assumption) (by assumption) ?_
            | refine T_iconst (v := (nI 1)) (pc1 := 31) (pc := 30) k_M_mark_30 rfl (by decide) ?_
            | refine T_isub (pc1 := 32) (pc := 31) k_M_mark_31 rfl ?_
            | (refine T_cS (As := [_, _, _]) (d1 := 1) (pc1 := 35) (pc := 32) k_M_mark_32 rfl (by decide) (Nat.le_of_ble_eq_true rfl) rfl o_M_within l_M_95 rfl (c_M_within (fun hw => ?_) (fun hw => ?_)) <;> try dsimp only [psh])
            | (with_reducible refine T_if_neN (tgt := 42) (pc1 := 38) (pc := 35) k_M_mark_35 (by decide) (by decide) (by omega) (fun hc => ?_) (fun hc => ?_) <;> first | (exfalso; omega) | skip)
            | refine T_if_ne_t (tgt := 42) (pc := 35) k_M_mark_35 rfl (by decide) ?_
            | refine T_if_ne_f (tgt := 42) (pc1 := 38) (pc := 35) k_M_mark_35 rfl rfl (by decide) ?_
            | refine T_if_ne (tgt := 42) (pc1 := 38) (pc := 35) k_M_mark_35 rfl rfl (fun hc => ?_) (fun hc => ?_)
            | refine T_ldcw (v := (-1000000013)) (pc1 := 41) (pc := 38) k_M_mark_38 rfl c_M_297 ?_
            | refine T_retI (pc := 41) k_M_mark_41 rfl (by first | rfl | decide | assumption) ?_
            | refine T_aload_n (pc1 := 43) (pc := 42) k_M_mark_42 rfl rfl ?_
            | refine T_aload_nN (pc1 := 43) (pc := 42) k_M_mark_42 rfl rfl ?_
            | refine T_getR (pc1 := 46) (pc := 43) k_M_mark_43 rfl f_M_61 rfl (by first | exact ga G (by decide) rfl | assumption) (by first | exact gr G (by decide) rfl | assumption) ?_
            | refine T_iload_n (pc1 := 47) (pc := 46) k_M_mark_46 rfl rfl ?_
            | refine T_ialdN (pc1 := 48) (pc := 47) k_M_mark_47 rfl (by first | exact ga G (by decide) rfl | assumption) (by omega) (by omega) (by first | assumption | (simp (disch := omega) only [pI_eq, pI_row, pI_col, va_up_self, va_up_ne, ne_eq, not_false_eq_true, hSo, hSi, h1, h2] <;> rfl) | rfl) ?_
            | refine T_iald (pc1 := 48) (pc := 47) k_M_mark_47 rfl (by first | exact ga G (by decide) rfl | assumption) (by assumption) ?_
            | (with_reducible refine T_if_neN (tgt := 60) (pc1 := 51) (pc := 48) k_M_mark_48 (by decide) (by decide) (by omega) (fun hc => ?_) (fun hc => ?_) <;> first | (exfalso; omega) | skip)
            | refine T_if_ne_t (tgt := 60) (pc := 48) k_M_mark_48 rfl (by decide) ?_
            | refine T_if_ne_f (tgt := 60) (pc1 := 51) (pc := 48) k_M_mark_48 rfl rfl (by decide) ?_
            | refine T_if_ne (tgt := 60) (pc1 := 51) (pc := 48) k_M_mark_48 rfl rfl (fun hc => ?_) (fun hc => ?_)
            | refine T_iload_n (pc1 := 52) (pc := 51) k_M_mark_51 rfl rfl ?_
            | refine T_ldc (v := (-1000000005)) (pc1 := 54) (pc := 52) k_M_mark_52 rfl c_M_103 ?_
            | (with_reducible refine T_icmp_neN (tgt := 60) (pc1 := 57) (pc := 54) k_M_mark_54 (by decide) (by decide) (by omega) (by omega) (fun hc => ?_) (fun hc => ?_) <;> first | (exfalso; omega) | skip)
            | refine T_icmp_ne_t (tgt := 60) (pc := 54) k_M_mark_54 rfl (by decide) ?_
            | refine T_icmp_ne_f (tgt := 60) (pc1 := 57) (pc := 54) k_M_mark_54 rfl rfl (by decide) ?_
            | refine T_icmp_ne (tgt := 60) (pc1 := 57) (pc := 54) k_M_mark_54 rfl rfl (fun hc => ?_) (fun hc => ?_)
            | refine T_ldc (v := (-1000000012)) (pc1 := 59) (pc := 57) k_M_mark_57 rfl c_M_155 ?_
            | refine T_retI (pc := 59) k_M_mark_59 rfl (by first | rfl | decide | assumption) ?_
            | refine T_aload_n (pc1 := 61) (pc := 60) k_M_mark_60 rfl rfl ?_
            | refine T_aload_nN (pc1 := 61) (pc := 60) k_M_mark_60 rfl rfl ?_
            | refine T_getR (pc1 := 64) (pc := 61) k_M_mark_61 rfl f_M_61 rfl (by first | exact ga G (by decide) rfl | assumption) (by first | exact gr G (by decide) rfl | assumption) ?_
            | refine T_iload_n (pc1 := 65) (pc := 64) k_M_mark_64 rfl rfl ?_
            | refine T_ialdN (pc1 := 66) (pc := 65) k_M_mark_65 rfl (by first | exact ga G (by decide) rfl | assumption) (by omega) (by omega) (by first | assumption | (simp (disch := omega) only [pI_eq, pI_row, pI_col, va_up_self, va_up_ne, ne_eq, not_false_eq_true, hSo, hSi, h1, h2] <;> rfl) | rfl) ?_
            | refine T_iald (pc1 := 66) (pc := 65) k_M_mark_65 rfl (by first | exact ga G (by decide) rfl | assumption) (by assumption) ?_
            | refine T_iconst (v := (nI 1)) (pc1 := 67) (pc := 66) k_M_mark_66 rfl (by decide) ?_
            | (with_reducible refine T_icmp_neN (tgt := 92) (pc1 := 70) (pc := 67) k_M_mark_67 (by decide) (by decide) (by omega) (by omega) (fun hc => ?_) (fun hc => ?_) <;> first | (exfalso; omega) | skip)
            | refine T_icmp_ne_t (tgt := 92) (pc := 67) k_M_mark_67 rfl (by decide) ?_
            | refine T_icmp_ne_f (tgt := 92) (pc1 := 70) (pc := 67) k_M_mark_67 rfl rfl (by decide) ?_
            | refine T_icmp_ne (tgt := 92) (pc1 := 70) (pc := 67) k_M_mark_67 rfl rfl (fun hc => ?_) (fun hc => ?_)
            | refine T_iload_n (pc1 := 71) (pc := 70) k_M_mark_70 rfl rfl ?_
            | refine T_ldc (v := (-1000000005)) (pc1 := 73) (pc := 71) k_M_mark_71 rfl c_M_103 ?_
            | (with_reducible refine T_icmp_eqN (tgt := 92) (pc1 := 76) (pc := 73) k_M_mark_73 (by decide) (by decide) (by omega) (by omega) (fun hc => ?_) (fun hc => ?_) <;> first | (exfalso; omega) | skip)
            | refine T_icmp_eq_t (tgt := 92) (pc := 73) k_M_mark_73 rfl (by decide) ?_
            | refine T_icmp_eq_f (tgt := 92) (pc1 := 76) (pc := 73) k_M_mark_73 rfl rfl (by decide) ?_
            | refine T_icmp_eq (tgt := 92) (pc1 := 76) (pc := 73) k_M_mark_73 rfl rfl (fun hc => ?_) (fun hc => ?_)
            | refine T_iload_n (pc1 := 77) (pc := 76) k_M_mark_76 rfl rfl ?_
            | refine T_ldcw (v := (-99999)) (pc1 := 80) (pc := 77) k_M_mark_77 rfl c_M_298 ?_
            | refine T_ldcw (v := (nI 99999)) (pc1 := 83) (pc := 80) k_M_mark_80 rfl c_M_299 ?_
            | (refine T_cS (As := [_, _, _]) (d1 := 1) (pc1 := 86) (pc := 83) k_M_mark_83 rfl (by decide) (Nat.le_of_ble_eq_true rfl) rfl o_M_within l_M_95 rfl (c_M_within (fun hw => ?_) (fun hw => ?_)) <;> try dsimp only [psh])
            | (with_reducible refine T_if_neN (tgt := 92) (pc1 := 89) (pc := 86) k_M_mark_86 (by decide) (by decide) (by omega) (fun hc => ?_) (fun hc => ?_) <;> first | (exfalso; omega) | skip)
            | refine T_if_ne_t (tgt := 92) (pc := 86) k_M_mark_86 rfl (by decide) ?_
            | refine T_if_ne_f (tgt := 92) (pc1 := 89) (pc := 86) k_M_mark_86 rfl rfl (by decide) ?_
            | refine T_if_ne (tgt := 92) (pc1 := 89) (pc := 86) k_M_mark_86 rfl rfl (fun hc => ?_) (fun hc => ?_)
            | refine T_ldc (v := (-1000000001)) (pc1 := 91) (pc := 89) k_M_mark_89 rfl c_M_111 ?_
            | refine T_retI (pc := 91) k_M_mark_91 rfl (by first | rfl | decide | assumption) ?_
            | refine T_aload_n (pc1 := 93) (pc := 92) k_M_mark_92 rfl rfl ?_
            | refine T_aload_nN (pc1 := 93) (pc := 92) k_M_mark_92 rfl rfl ?_
            | refine T_getR (pc1 := 96) (pc := 93) k_M_mark_93 rfl f_M_67 rfl (by first | exact ga G (by decide) rfl | assumption) (by first | exact gr G (by decide) rfl | assumption) ?_
            | refine T_bipush (v := (nI 24)) (pc1 := 98) (pc := 96) k_M_mark_96 rfl (by decide) ?_
            | refine T_iload_n (pc1 := 99) (pc := 98) k_M_mark_98 rfl rfl ?_
            | with_reducible refine T_imulN (pc1 := 100) (pc := 99) k_M_mark_99 (by decide) ?_
            | refine T_imul (pc1 := 100) (pc := 99) k_M_mark_99 rfl ?_
            | refine T_iload_n (pc1 := 101) (pc := 100) k_M_mark_100 rfl rfl ?_
            | with_reducible refine T_iaddN (pc1 := 102) (pc := 101) k_M_mark_101 (by decide) ?_
            | refine T_iadd (pc1 := 102) (pc := 101) k_M_mark_101 rfl ?_
            | refine T_aload_n (pc1 := 103) (pc := 102) k_M_mark_102 rfl rfl ?_
            | refine T_aload_nN (pc1 := 103) (pc := 102) k_M_mark_102 rfl rfl ?_
            | refine T_getR (pc1 := 106) (pc := 103) k_M_mark_103 rfl f_M_61 rfl (by first | exact ga G (by decide) rfl | assumption) (by first | exact gr G (by decide) rfl | assumption) ?_
            | refine T_iload_n (pc1 := 107) (pc := 106) k_M_mark_106 rfl rfl ?_
            | refine T_ialdN (pc1 := 108) (pc := 107) k_M_mark_107 rfl (by first | exact ga G (by decide) rfl | assumption) (by omega) (by omega) (by first | assumption | (simp (disch := omega) only [pI_eq, pI_row, pI_col, va_up_self, va_up_ne, ne_eq, not_false_eq_true, hSo, hSi, h1, h2] <;> rfl) | rfl) ?_
            | refine T_iald (pc1 := 108) (pc := 107) k_M_mark_107 rfl (by first | exact ga G (by decide) rfl | assumption) (by assumption) ?_
            | (with_reducible refine T_if_neN (tgt := 116) (pc1 := 111) (pc := 108) k_M_mark_108 (by decide) (by decide) (by omega) (fun hc => ?_) (fun hc => ?_) <;> first | (exfalso; omega) | skip)
            | refine T_if_ne_t (tgt := 116) (pc := 108) k_M_mark_108 rfl (by decide) ?_
            | refine T_if_ne_f (tgt := 116) (pc1 := 111) (pc := 108) k_M_mark_108 rfl rfl (by decide) ?_
            | refine T_if_ne (tgt := 116) (pc1 := 111) (pc := 108) k_M_mark_108 rfl rfl (fun hc => ?_) (fun hc => ?_)
            | refine T_iload_n (pc1 := 112) (pc := 111) k_M_mark_111 rfl rfl ?_
            | refine T_i2s (pc1 := 113) (pc := 112) k_M_mark_112 rfl ?_
            | refine T_goto (tgt := 117) (pc := 113) k_M_mark_113 rfl ?_
            | refine T_iload_n (pc1 := 117) (pc := 116) k_M_mark_116 rfl rfl ?_
            | refine T_iastN (pc1 := 118) (pc := 117) k_M_mark_117 rfl (by first | exact ga G (by decide) rfl | assumption) (by omega) (by omega) ?_
            | refine T_iconst (v := (nI 1)) (pc1 := 119) (pc := 118) k_M_mark_118 rfl (by decide) ?_
            | refine T_retI (pc := 119) k_M_mark_119 rfl (by first | rfl | decide | assumption) ?_)
          all_goals first | exact kk _ _ (eqx_pI eqx_rf _ (by decide)) ((upI hPl).trans (k1 (by assumption)).2.symm) (k1 (by assumption)).1.symm | exact kk I _ eqx_rf (hPl.trans (k2 (Decidable.not_not.mp (by assumption))).2.symm) (k2 (Decidable.not_not.mp (by assumption))).1.symm | (exfalso; exact hw hs) | (exfalso; apply hw; constructor <;> omega)
        · obtain ⟨k1, k2⟩ := mark_1 (So := So) (Si := Si) (Pl := Pl) (v := v) hj h1 h2 hz hx
          have k3 : v = cNONE → _ := fun q => k1 (Or.inl q)
          have k4 : bt (-99999) 99999 v → _ := fun q => k1 (Or.inr q)
          have k5 : ¬ v = cNONE → ¬ bt (-99999) 99999 v → _ := fun q1 q2 => k2 (fun q => q.elim q1 q2)
          repeat' (first
            | refine T_iload_n (pc1 := 1) (pc := 0) k_M_mark_0 rfl rfl ?_
            | (refine T_cS (As := [_]) (d1 := 2) (pc1 := 4) (pc := 1) k_M_mark_1 rfl (by decide) (Nat.le_of_ble_eq_true rfl) rfl o_M_isSheet l_M_193 rfl (c_M_isSheet (fun hw => ?_) (fun hw => ?_)) <;> try dsimp only [psh])
            | (with_reducible refine T_if_neN (tgt := 10) (pc1 := 7) (pc := 4) k_M_mark_4 (by decide) (by decide) (by omega) (fun hc => ?_) (fun hc => ?_) <;> first | (exfalso; omega) | skip)
            | refine T_if_ne_t (tgt := 10) (pc := 4) k_M_mark_4 rfl (by decide) ?_
            | refine T_if_ne_f (tgt := 10) (pc1 := 7) (pc := 4) k_M_mark_4 rfl rfl (by decide) ?_
            | refine T_if_ne (tgt := 10) (pc1 := 7) (pc := 4) k_M_mark_4 rfl rfl (fun hc => ?_) (fun hc => ?_)
            | refine T_ldc (v := (-1000000001)) (pc1 := 9) (pc := 7) k_M_mark_7 rfl c_M_111 ?_
            | refine T_retI (pc := 9) k_M_mark_9 rfl (by first | rfl | decide | assumption) ?_
            | refine T_aload_n (pc1 := 11) (pc := 10) k_M_mark_10 rfl rfl ?_
            | refine T_aload_nN (pc1 := 11) (pc := 10) k_M_mark_10 rfl rfl ?_
            | refine T_getR (pc1 := 14) (pc := 11) k_M_mark_11 rfl f_M_61 rfl (by first | exact ga G (by decide) rfl | assumption) (by first | exact gr G (by decide) rfl | assumption) ?_
            | refine T_iload_n (pc1 := 15) (pc := 14) k_M_mark_14 rfl rfl ?_
            | refine T_ialdN (pc1 := 16) (pc := 15) k_M_mark_15 rfl (by first | exact ga G (by decide) rfl | assumption) (by omega) (by omega) (by first | assumption | (simp (disch := omega) only [pI_eq, pI_row, pI_col, va_up_self, va_up_ne, ne_eq, not_false_eq_true, hSo, hSi, h1, h2] <;> rfl) | rfl) ?_
            | refine T_iald (pc1 := 16) (pc := 15) k_M_mark_15 rfl (by first | exact ga G (by decide) rfl | assumption) (by assumption) ?_
            | (with_reducible refine T_if_geN (tgt := 22) (pc1 := 19) (pc := 16) k_M_mark_16 (by decide) (by decide) (by omega) ?_ <;> first | (exfalso; omega) | skip)
            | refine T_if_ge_t (tgt := 22) (pc := 16) k_M_mark_16 rfl (by decide) ?_
            | refine T_if_ge_f (tgt := 22) (pc1 := 19) (pc := 16) k_M_mark_16 rfl rfl (by decide) ?_
            | refine T_if_ge (tgt := 22) (pc1 := 19) (pc := 16) k_M_mark_16 rfl rfl (fun hc => ?_) (fun hc => ?_)
            | refine T_ldc (v := (-1000000011)) (pc1 := 21) (pc := 19) k_M_mark_19 rfl c_M_196 ?_
            | refine T_retI (pc := 21) k_M_mark_21 rfl (by first | rfl | decide | assumption) ?_
            | refine T_iload_n (pc1 := 23) (pc := 22) k_M_mark_22 rfl rfl ?_
            | refine T_iconst (v := (nI 0)) (pc1 := 24) (pc := 23) k_M_mark_23 rfl (by decide) ?_
            | refine T_aload_n (pc1 := 25) (pc := 24) k_M_mark_24 rfl rfl ?_
            | refine T_aload_nN (pc1 := 25) (pc := 24) k_M_mark_24 rfl rfl ?_
            | refine T_getR (pc1 := 28) (pc := 25) k_M_mark_25 rfl f_M_64 rfl (by first | exact ga G (by decide) rfl | assumption) (by first | exact gr G (by decide) rfl | assumption) ?_
            | refine T_iload_n (pc1 := 29) (pc := 28) k_M_mark_28 rfl rfl ?_
            | refine T_ialdN (pc1 := 30) (pc := 29) k_M_mark_29 rfl (by first | exact ga G (by decide) rfl | assumption) (by omega) (by omega) (by first | assumption | (simp (disch := omega) only [pI_eq, pI_row, pI_col, va_up_self, va_up_ne, ne_eq, not_false_eq_true, hSo, hSi, h1, h2] <;> rfl) | rfl) ?_
            | refine T_iald (pc1 := 30) (pc := 29) k_M_mark_29 rfl (by first | exact ga G (by decide) rfl | assumption) (by assumption) ?_
            | refine T_iconst (v := (nI 1)) (pc1 := 31) (pc := 30) k_M_mark_30 rfl (by decide) ?_
            | refine T_isub (pc1 := 32) (pc := 31) k_M_mark_31 rfl ?_
            | (refine T_cS (As := [_, _, _]) (d1 := 1) (pc1 := 35) (pc := 32) k_M_mark_32 rfl (by decide) (Nat.le_of_ble_eq_true rfl) rfl o_M_within l_M_95 rfl (c_M_within (fun hw => ?_) (fun hw => ?_)) <;> try dsimp only [psh])
            | (with_reducible refine T_if_neN (tgt := 42) (pc1 := 38) (pc := 35) k_M_mark_35 (by decide) (by decide) (by omega) (fun hc => ?_) (fun hc => ?_) <;> first | (exfalso; omega) | skip)
            | refine T_if_ne_t (tgt := 42) (pc := 35) k_M_mark_35 rfl (by decide) ?_
            | refine T_if_ne_f (tgt := 42) (pc1 := 38) (pc := 35) k_M_mark_35 rfl rfl (by decide) ?_
            | refine T_if_ne (tgt := 42) (pc1 := 38) (pc := 35) k_M_mark_35 rfl rfl (fun hc => ?_) (fun hc => ?_)
            | refine T_ldcw (v := (-1000000013)) (pc1 := 41) (pc := 38) k_M_mark_38 rfl c_M_297 ?_
            | refine T_retI (pc := 41) k_M_mark_41 rfl (by first | rfl | decide | assumption) ?_
            | refine T_aload_n (pc1 := 43) (pc := 42) k_M_mark_42 rfl rfl ?_
            | refine T_aload_nN (pc1 := 43) (pc := 42) k_M_mark_42 rfl rfl ?_
            | refine T_getR (pc1 := 46) (pc := 43) k_M_mark_43 rfl f_M_61 rfl (by first | exact ga G (by decide) rfl | assumption) (by first | exact gr G (by decide) rfl | assumption) ?_
            | refine T_iload_n (pc1 := 47) (pc := 46) k_M_mark_46 rfl rfl ?_
            | refine T_ialdN (pc1 := 48) (pc := 47) k_M_mark_47 rfl (by first | exact ga G (by decide) rfl | assumption) (by omega) (by omega) (by first | assumption | (simp (disch := omega) only [pI_eq, pI_row, pI_col, va_up_self, va_up_ne, ne_eq, not_false_eq_true, hSo, hSi, h1, h2] <;> rfl) | rfl) ?_
            | refine T_iald (pc1 := 48) (pc := 47) k_M_mark_47 rfl (by first | exact ga G (by decide) rfl | assumption) (by assumption) ?_
            | (with_reducible refine T_if_neN (tgt := 60) (pc1 := 51) (pc := 48) k_M_mark_48 (by decide) (by decide) (by omega) (fun hc => ?_) (fun hc => ?_) <;> first | (exfalso; omega) | skip)
            | refine T_if_ne_t (tgt := 60) (pc := 48) k_M_mark_48 rfl (by decide) ?_
            | refine T_if_ne_f (tgt := 60) (pc1 := 51) (pc := 48) k_M_mark_48 rfl rfl (by decide) ?_
            | refine T_if_ne (tgt := 60) (pc1 := 51) (pc := 48) k_M_mark_48 rfl rfl (fun hc => ?_) (fun hc => ?_)
            | refine T_iload_n (pc1 := 52) (pc := 51) k_M_mark_51 rfl rfl ?_
            | refine T_ldc (v := (-1000000005)) (pc1 := 54) (pc := 52) k_M_mark_52 rfl c_M_103 ?_
            | (with_reducible refine T_icmp_neN (tgt := 60) (pc1 := 57) (pc := 54) k_M_mark_54 (by decide) (by decide) (by omega) (by omega) (fun hc => ?_) (fun hc => ?_) <;> first | (exfalso; omega) | skip)
            | refine T_icmp_ne_t (tgt := 60) (pc := 54) k_M_mark_54 rfl (by decide) ?_
            | refine T_icmp_ne_f (tgt := 60) (pc1 := 57) (pc := 54) k_M_mark_54 rfl rfl (by decide) ?_
            | refine T_icmp_ne (tgt := 60) (pc1 := 57) (pc := 54) k_M_mark_54 rfl rfl (fun hc => ?_) (fun hc => ?_)
            | refine T_ldc (v := (-1000000012)) (pc1 := 59) (pc := 57) k_M_mark_57 rfl c_M_155 ?_
            | refine T_retI (pc := 59) k_M_mark_59 rfl (by first | rfl | decide | assumption) ?_
            | refine T_aload_n (pc1 := 61) (pc := 60) k_M_mark_60 rfl rfl ?_
            | refine T_aload_nN (pc1 := 61) (pc := 60) k_M_mark_60 rfl rfl ?_
            | refine T_getR (pc1 := 64) (pc := 61) k_M_mark_61 rfl f_M_61 rfl (by first | exact ga G (by decide) rfl | assumption) (by first | exact gr G (by decide) rfl | assumption) ?_
            | refine T_iload_n (pc1 := 65) (pc := 64) k_M_mark_64 rfl rfl ?_
            | refine T_ialdN (pc1 := 66) (pc := 65) k_M_mark_65 rfl (by first | exact ga G (by decide) rfl | assumption) (by omega) (by omega) (by first | assumption | (simp (disch := omega) only [pI_eq, pI_row, pI_col, va_up_self, va_up_ne, ne_eq, not_false_eq_true, hSo, hSi, h1, h2] <;> rfl) | rfl) ?_
            | refine T_iald (pc1 := 66) (pc := 65) k_M_mark_65 rfl (by first | exact ga G (by decide) rfl | assumption) (by assumption) ?_
            | refine T_iconst (v := (nI 1)) (pc1 := 67) (pc := 66) k_M_mark_66 rfl (by decide) ?_
            | (with_reducible refine T_icmp_neN (tgt := 92) (pc1 := 70) (pc := 67) k_M_mark_67 (by decide) (by decide) (by omega) (by omega) (fun hc => ?_) (fun hc => ?_) <;> first | (exfalso; omega) | skip)
            | refine T_icmp_ne_t (tgt := 92) (pc := 67) k_M_mark_67 rfl (by decide) ?_
            | refine T_icmp_ne_f (tgt := 92) (pc1 := 70) (pc := 67) k_M_mark_67 rfl rfl (by decide) ?_
            | refine T_icmp_ne (tgt := 92) (pc1 := 70) (pc := 67) k_M_mark_67 rfl rfl (fun hc => ?_) (fun hc => ?_)
            | refine T_iload_n (pc1 := 71) (pc := 70) k_M_mark_70 rfl rfl ?_
            | refine T_ldc (v := (-1000000005)) (pc1 := 73) (pc := 71) k_M_mark_71 rfl c_M_103 ?_
            | (with_reducible refine T_icmp_eqN (tgt := 92) (pc1 := 76) (pc := 73) k_M_mark_73 (by decide) (by decide) (by omega) (by omega) (fun hc => ?_) (fun hc => ?_) <;> first | (exfalso; omega) | skip)
            | refine T_icmp_eq_t (tgt := 92) (pc := 73) k_M_mark_73 rfl (by decide) ?_
            | refine T_icmp_eq_f (tgt := 92) (pc1 := 76) (pc := 73) k_M_mark_73 rfl rfl (by decide) ?_
            | refine T_icmp_eq (tgt := 92) (pc1 := 76) (pc := 73) k_M_mark_73 rfl rfl (fun hc => ?_) (fun hc => ?_)
            | refine T_iload_n (pc1 := 77) (pc := 76) k_M_mark_76 rfl rfl ?_
            | refine T_ldcw (v := (-99999)) (pc1 := 80) (pc := 77) k_M_mark_77 rfl c_M_298 ?_
            | refine T_ldcw (v := (nI 99999)) (pc1 := 83) (pc := 80) k_M_mark_80 rfl c_M_299 ?_
            | (refine T_cS (As := [_, _, _]) (d1 := 1) (pc1 := 86) (pc := 83) k_M_mark_83 rfl (by decide) (Nat.le_of_ble_eq_true rfl) rfl o_M_within l_M_95 rfl (c_M_within (fun hw => ?_) (fun hw => ?_)) <;> try dsimp only [psh])
            | (with_reducible refine T_if_neN (tgt := 92) (pc1 := 89) (pc := 86) k_M_mark_86 (by decide) (by decide) (by omega) (fun hc => ?_) (fun hc => ?_) <;> first | (exfalso; omega) | skip)
            | refine T_if_ne_t (tgt := 92) (pc := 86) k_M_mark_86 rfl (by decide) ?_
            | refine T_if_ne_f (tgt := 92) (pc1 := 89) (pc := 86) k_M_mark_86 rfl rfl (by decide) ?_
            | refine T_if_ne (tgt := 92) (pc1 := 89) (pc := 86) k_M_mark_86 rfl rfl (fun hc => ?_) (fun hc => ?_)
            | refine T_ldc (v := (-1000000001)) (pc1 := 91) (pc := 89) k_M_mark_89 rfl c_M_111 ?_
            | refine T_retI (pc := 91) k_M_mark_91 rfl (by first | rfl | decide | assumption) ?_
            | refine T_aload_n (pc1 := 93) (pc := 92) k_M_mark_92 rfl rfl ?_
            | refine T_aload_nN (pc1 := 93) (pc := 92) k_M_mark_92 rfl rfl ?_
            | refine T_getR (pc1 := 96) (pc := 93) k_M_mark_93 rfl f_M_67 rfl (by first | exact ga G (by decide) rfl | assumption) (by first | exact gr G (by decide) rfl | assumption) ?_
            | refine T_bipush (v := (nI 24)) (pc1 := 98) (pc := 96) k_M_mark_96 rfl (by decide) ?_
            | refine T_iload_n (pc1 := 99) (pc := 98) k_M_mark_98 rfl rfl ?_
            | with_reducible refine T_imulN (pc1 := 100) (pc := 99) k_M_mark_99 (by decide) ?_
            | refine T_imul (pc1 := 100) (pc := 99) k_M_mark_99 rfl ?_
            | refine T_iload_n (pc1 := 101) (pc := 100) k_M_mark_100 rfl rfl ?_
            | with_reducible refine T_iaddN (pc1 := 102) (pc := 101) k_M_mark_101 (by decide) ?_
            | refine T_iadd (pc1 := 102) (pc := 101) k_M_mark_101 rfl ?_
            | refine T_aload_n (pc1 := 103) (pc := 102) k_M_mark_102 rfl rfl ?_
            | refine T_aload_nN (pc1 := 103) (pc := 102) k_M_mark_102 rfl rfl ?_
            | refine T_getR (pc1 := 106) (pc := 103) k_M_mark_103 rfl f_M_61 rfl (by first | exact ga G (by decide) rfl | assumption) (by first | exact gr G (by decide) rfl | assumption) ?_
            | refine T_iload_n (pc1 := 107) (pc := 106) k_M_mark_106 rfl rfl ?_
            | refine T_ialdN (pc1 := 108) (pc := 107) k_M_mark_107 rfl (by first | exact ga G (by decide) rfl | assumption) (by omega) (by omega) (by first | assumption | (simp (disch := omega) only [pI_eq, pI_row, pI_col, va_up_self, va_up_ne, ne_eq, not_false_eq_true, hSo, hSi, h1, h2] <;> rfl) | rfl) ?_
            | refine T_iald (pc1 := 108) (pc := 107) k_M_mark_107 rfl (by first | exact ga G (by decide) rfl | assumption) (by assumption) ?_
            | (with_reducible refine T_if_neN (tgt := 116) (pc1 := 111) (pc := 108) k_M_mark_108 (by decide) (by decide) (by omega) (fun hc => ?_) (fun hc => ?_) <;> first | (exfalso; omega) | skip)
            | refine T_if_ne_t (tgt := 116) (pc := 108) k_M_mark_108 rfl (by decide) ?_
            | refine T_if_ne_f (tgt := 116) (pc1 := 111) (pc := 108) k_M_mark_108 rfl rfl (by decide) ?_
            | refine T_if_ne (tgt := 116) (pc1 := 111) (pc := 108) k_M_mark_108 rfl rfl (fun hc => ?_) (fun hc => ?_)
            | refine T_iload_n (pc1 := 112) (pc := 111) k_M_mark_111 rfl rfl ?_
            | refine T_i2s (pc1 := 113) (pc := 112) k_M_mark_112 rfl ?_
            | refine T_goto (tgt := 117) (pc := 113) k_M_mark_113 rfl ?_
            | refine T_iload_n (pc1 := 117) (pc := 116) k_M_mark_116 rfl rfl ?_
            | refine T_iastN (pc1 := 118) (pc := 117) k_M_mark_117 rfl (by first | exact ga G (by decide) rfl | assumption) (by omega) (by omega) ?_
            | refine T_iconst (v := (nI 1)) (pc1 := 119) (pc := 118) k_M_mark_118 rfl (by decide) ?_
            | refine T_retI (pc := 119) k_M_mark_119 rfl (by first | rfl | decide | assumption) ?_)
          all_goals first | exact kk _ _ (eqx_pI eqx_rf _ (by decide)) ((upI hPl).trans (k3 (by assumption)).2.symm) (k3 (by assumption)).1.symm | exact kk _ _ (eqx_pI eqx_rf _ (by decide)) ((upI hPl).trans (k4 ⟨by omega, by omega⟩).2.symm) (k4 ⟨by omega, by omega⟩).1.symm | exact kk I _ eqx_rf (hPl.trans (k5 (by assumption) (fun q => hw (by have := q.1; have := q.2; constructor <;> omega))).2.symm) (k5 (by assumption) (fun q => hw (by have := q.1; have := q.2; constructor <;> omega))).1.symm | (exfalso; exact hw hs) | (exfalso; apply hw; constructor <;> omega)
      · have hne : ¬ So j = -1 := by rcases h1 with h | h <;> rw [h] <;> decide
        obtain ⟨kA, kP⟩ := mark_ix (So := So) (Si := Si) (Pl := Pl) (v := v) hj hne h2 hz hp
        rw [kA, kP] at kk
        rcases h1 with h1 | h1
        all_goals
          repeat' (first
            | refine T_iload_n (pc1 := 1) (pc := 0) k_M_mark_0 rfl rfl ?_
            | (refine T_cS (As := [_]) (d1 := 2) (pc1 := 4) (pc := 1) k_M_mark_1 rfl (by decide) (Nat.le_of_ble_eq_true rfl) rfl o_M_isSheet l_M_193 rfl (c_M_isSheet (fun hw => ?_) (fun hw => ?_)) <;> try dsimp only [psh])
            | (with_reducible refine T_if_neN (tgt := 10) (pc1 := 7) (pc := 4) k_M_mark_4 (by decide) (by decide) (by omega) (fun hc => ?_) (fun hc => ?_) <;> first | (exfalso; omega) | skip)
            | refine T_if_ne_t (tgt := 10) (pc := 4) k_M_mark_4 rfl (by decide) ?_
            | refine T_if_ne_f (tgt := 10) (pc1 := 7) (pc := 4) k_M_mark_4 rfl rfl (by decide) ?_
            | refine T_if_ne (tgt := 10) (pc1 := 7) (pc := 4) k_M_mark_4 rfl rfl (fun hc => ?_) (fun hc => ?_)
            | refine T_ldc (v := (-1000000001)) (pc1 := 9) (pc := 7) k_M_mark_7 rfl c_M_111 ?_
            | refine T_retI (pc := 9) k_M_mark_9 rfl (by first | rfl | decide | assumption) ?_
            | refine T_aload_n (pc1 := 11) (pc := 10) k_M_mark_10 rfl rfl ?_
            | refine T_aload_nN (pc1 := 11) (pc := 10) k_M_mark_10 rfl rfl ?_
            | refine T_getR (pc1 := 14) (pc := 11) k_M_mark_11 rfl f_M_61 rfl (by first | exact ga G (by decide) rfl | assumption) (by first | exact gr G (by decide) rfl | assumption) ?_
            | refine T_iload_n (pc1 := 15) (pc := 14) k_M_mark_14 rfl rfl ?_
            | refine T_ialdN (pc1 := 16) (pc := 15) k_M_mark_15 rfl (by first | exact ga G (by decide) rfl | assumption) (by omega) (by omega) (by first | assumption | (simp (disch := omega) only [pI_eq, pI_row, pI_col, va_up_self, va_up_ne, ne_eq, not_false_eq_true, hSo, hSi, h1, h2] <;> rfl) | rfl) ?_
            | refine T_iald (pc1 := 16) (pc := 15) k_M_mark_15 rfl (by first | exact ga G (by decide) rfl | assumption) (by assumption) ?_
            | (with_reducible refine T_if_geN (tgt := 22) (pc1 := 19) (pc := 16) k_M_mark_16 (by decide) (by decide) (by omega) ?_ <;> first | (exfalso; omega) | skip)
            | refine T_if_ge_t (tgt := 22) (pc := 16) k_M_mark_16 rfl (by decide) ?_
            | refine T_if_ge_f (tgt := 22) (pc1 := 19) (pc := 16) k_M_mark_16 rfl rfl (by decide) ?_
            | refine T_if_ge (tgt := 22) (pc1 := 19) (pc := 16) k_M_mark_16 rfl rfl (fun hc => ?_) (fun hc => ?_)
            | refine T_ldc (v := (-1000000011)) (pc1 := 21) (pc := 19) k_M_mark_19 rfl c_M_196 ?_
            | refine T_retI (pc := 21) k_M_mark_21 rfl (by first | rfl | decide | assumption) ?_
            | refine T_iload_n (pc1 := 23) (pc := 22) k_M_mark_22 rfl rfl ?_
            | refine T_iconst (v := (nI 0)) (pc1 := 24) (pc := 23) k_M_mark_23 rfl (by decide) ?_
            | refine T_aload_n (pc1 := 25) (pc := 24) k_M_mark_24 rfl rfl ?_
            | refine T_aload_nN (pc1 := 25) (pc := 24) k_M_mark_24 rfl rfl ?_
            | refine T_getR (pc1 := 28) (pc := 25) k_M_mark_25 rfl f_M_64 rfl (by first | exact ga G (by decide) rfl | assumption) (by first | exact gr G (by decide) rfl | assumption) ?_
            | refine T_iload_n (pc1 := 29) (pc := 28) k_M_mark_28 rfl rfl ?_
            | refine T_ialdN (pc1 := 30) (pc := 29) k_M_mark_29 rfl (by first | exact ga G (by decide) rfl | assumption) (by omega) (by omega) (by first | assumption | (simp (disch := omega) only [pI_eq, pI_row, pI_col, va_up_self, va_up_ne, ne_eq, not_false_eq_true, hSo, hSi, h1, h2] <;> rfl) | rfl) ?_
            | refine T_iald (pc1 := 30) (pc := 29) k_M_mark_29 rfl (by first | exact ga G (by decide) rfl | assumption) (by assumption) ?_
            | refine T_iconst (v := (nI 1)) (pc1 := 31) (pc := 30) k_M_mark_30 rfl (by decide) ?_
            | refine T_isub (pc1 := 32) (pc := 31) k_M_mark_31 rfl ?_
            | (refine T_cS (As := [_, _, _]) (d1 := 1) (pc1 := 35) (pc := 32) k_M_mark_32 rfl (by decide) (Nat.le_of_ble_eq_true rfl) rfl o_M_within l_M_95 rfl (c_M_within (fun hw => ?_) (fun hw => ?_)) <;> try dsimp only [psh])
            | (with_reducible refine T_if_neN (tgt := 42) (pc1 := 38) (pc := 35) k_M_mark_35 (by decide) (by decide) (by omega) (fun hc => ?_) (fun hc => ?_) <;> first | (exfalso; omega) | skip)
            | refine T_if_ne_t (tgt := 42) (pc := 35) k_M_mark_35 rfl (by decide) ?_
            | refine T_if_ne_f (tgt := 42) (pc1 := 38) (pc := 35) k_M_mark_35 rfl rfl (by decide) ?_
            | refine T_if_ne (tgt := 42) (pc1 := 38) (pc := 35) k_M_mark_35 rfl rfl (fun hc => ?_) (fun hc => ?_)
            | refine T_ldcw (v := (-1000000013)) (pc1 := 41) (pc := 38) k_M_mark_38 rfl c_M_297 ?_
            | refine T_retI (pc := 41) k_M_mark_41 rfl (by first | rfl | decide | assumption) ?_)
          all_goals first | exact kk I _ eqx_rf hPl rfl | (exfalso; exact hw hs) | (exfalso; apply hp; constructor <;> omega)
  · obtain ⟨kA, kP⟩ := mark_bad (So := So) (Si := Si) (Pl := Pl) (p := p) (v := v) hs
    rw [kA, kP] at kk
    repeat' (first
      | refine T_iload_n (pc1 := 1) (pc := 0) k_M_mark_0 rfl rfl ?_
      | (refine T_cS (As := [_]) (d1 := 2) (pc1 := 4) (pc := 1) k_M_mark_1 rfl (by decide) (Nat.le_of_ble_eq_true rfl) rfl o_M_isSheet l_M_193 rfl (c_M_isSheet (fun hw => ?_) (fun hw => ?_)) <;> try dsimp only [psh])
      | (with_reducible refine T_if_neN (tgt := 10) (pc1 := 7) (pc := 4) k_M_mark_4 (by decide) (by decide) (by omega) (fun hc => ?_) (fun hc => ?_) <;> first | (exfalso; omega) | skip)
      | refine T_if_ne_t (tgt := 10) (pc := 4) k_M_mark_4 rfl (by decide) ?_
      | refine T_if_ne_f (tgt := 10) (pc1 := 7) (pc := 4) k_M_mark_4 rfl rfl (by decide) ?_
      | refine T_if_ne (tgt := 10) (pc1 := 7) (pc := 4) k_M_mark_4 rfl rfl (fun hc => ?_) (fun hc => ?_)
      | refine T_ldc (v := (-1000000001)) (pc1 := 9) (pc := 7) k_M_mark_7 rfl c_M_111 ?_
      | refine T_retI (pc := 9) k_M_mark_9 rfl (by first | rfl | decide | assumption) ?_)
    all_goals first | exact kk I _ eqx_rf hPl rfl | (exfalso; exact hs (by assumption))
end M14
