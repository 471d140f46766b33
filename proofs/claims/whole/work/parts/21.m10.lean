/-! The model: what will be (rows put aside and back), first half. -/
section PU6
def cpy (n : Nat) (f h : Row) : Row := fun k => if k < n then f k else h k
theorem cpy_0 (f h : Row) : cpy 0 f h = h := funext fun k => if_neg (Nat.not_lt_zero _)
theorem cpy_s (n : Nat) (f h : Row) : va_up (cpy n f h) n (f n) = cpy (n + 1) f h := by
  funext k
  unfold cpy
  by_cases hk : k = n
  · subst hk
    rw [va_up_self, if_pos (by omega)]
  · rw [va_up_ne _ _ hk]
    by_cases h2 : k < n
    · rw [if_pos h2, if_pos (by omega)]
    · rw [if_neg h2, if_neg (by omega)]
def wkOk (n tn : Nat) (N : Row) (w : WR) : Prop := okL w.2.2.2.2 n tn ∧ (∀ k, 156 ≤ k → w.2.2.2.2 k = N k) ∧ w.2.2.2.1 ≤ 60 ∧ w.2.2.1 ≤ 2000 * w.2.2.2.1 ∧ w.1 < 8 ∧ w.2.1 ≤ 2 ∧ (∀ i, i < w.2.2.2.1 → ∃ b, b < n ∧ w.2.2.2.2 (96 + i) = nI b) ∧ (w.2.2.2.2 0 = N 0 ∧ w.2.2.2.2 1 = N 1 ∧ w.2.2.2.2 2 = N 2)
theorem wkf_ok {n tn to0 : Nat} {N0 : Row} (ht : to0 < 8) : ∀ k at0 F mi tr (N : Row), k + tr = 61 → tr ≤ 60 → okL N n tn → at0 < 8 → mi ≤ 2000 * tr → (∀ i, i < tr → ∃ b, b < n ∧ N (96 + i) = nI b) → (∀ k, 156 ≤ k → N k = N0 k) → (N 0 = N0 0 ∧ N 1 = N0 1 ∧ N 2 = N0 2) → wkOk n tn N0 (wkf n tn to0 k at0 F mi tr N)
  | 0, at0, F, mi, tr, N, hk, h60, _, _, _, _, _, _ => by omega
  | k + 1, at0, F, mi, tr, N, hk, h60, ok, ha, hmi, hb, ht2, h012 => by
    have h14 := ok.2.1
    unfold wkf
    by_cases c1 : at0 = to0
    · rw [if_pos c1]
      exact ⟨ok, ht2, h60, hmi, ha, by show (0 : Nat) ≤ 2; omega, hb, h012⟩
    · rw [if_neg c1]
      cases hx : nxt N n (cst N tn F) at0 to0 with
      | none => exact ⟨ok, ht2, h60, hmi, ha, by show (1 : Nat) ≤ 2; omega, hb, h012⟩
      | some b =>
        have hbn := (nxt_in hx).1
        dsimp only
        by_cases c2 : tr = 60
        · rw [if_pos c2]
          exact ⟨ok, ht2, h60, hmi, ha, Nat.le_refl _, hb, h012⟩
        · rw [if_neg c2]
          by_cases c3 : brd N b = true
          · rw [if_pos c3]
            refine wkf_ok ht k _ _ _ _ _ (by omega) (by omega) (okL_up ok (by omega)) ha (by omega) (fun i hi => ?_) (fun k hk => by rw [va_up_ne _ _ (by omega)]; exact ht2 k hk) ⟨by rw [va_up_ne _ _ (by omega)]; exact h012.1, by rw [va_up_ne _ _ (by omega)]; exact h012.2.1, by rw [va_up_ne _ _ (by omega)]; exact h012.2.2⟩
            by_cases h : i = tr
            · subst h; exact ⟨b, hbn, va_up_self _ _ _⟩
            · rw [va_up_ne _ _ (by omega)]; exact hb i (by omega)
          · rw [if_neg c3]
            have htk := tkk_eq ok hbn
            refine wkf_ok ht k _ _ _ _ _ (by omega) (by omega) (okL_go ok hbn (by omega)) (oe_lt ok hbn) (by omega) (fun i hi => ?_) (fun k hk => by rw [goN_ne (by omega) (by omega) (by omega)]; exact ht2 k hk) ⟨by rw [goN_ne (by omega) (by omega) (by omega)]; exact h012.1, by rw [goN_ne (by omega) (by omega) (by omega)]; exact h012.2.1, by rw [goN_ne (by omega) (by omega) (by omega)]; exact h012.2.2⟩
            by_cases h : i = tr
            · subst h
              refine ⟨b, hbn, ?_⟩
              unfold goN
              rw [va_up_ne _ _ (by omega), va_up_ne _ _ (by omega), va_up_self]
            · rw [goN_ne (by omega) (by omega) (by omega)]; exact hb i (by omega)
theorem wkW_ok {N : Row} {n tn fr to0 : Nat} (ok : okL N n tn) (hf : fr < 8) (ht : to0 < 8) : wkOk n tn N (wkW N n tn fr to0) := wkf_ok ht 61 fr 0 0 0 N (by omega) (by omega) ok hf (by omega) (fun i hi => absurd hi (Nat.not_lt_zero _)) (fun _ _ => rfl) ⟨rfl, rfl, rfl⟩
theorem wkE_ne {w : WR} {k : Nat} (h : k = 0 ∨ (3 ≤ k ∧ k < 7) ∨ 12 ≤ k) : wkE w k = w.2.2.2.2 k := by
  unfold wkE
  rw [va_up_ne _ _ (by omega), va_up_ne _ _ (by omega), va_up_ne _ _ (by omega), va_up_ne _ _ (by omega), va_up_ne _ _ (by omega), va_up_ne _ _ (by omega), va_up_ne _ _ (by omega)]
theorem wkN_ok {N : Row} {n tn fr to0 : Nat} (ok : okL N n tn) (hf : fr < 8) (ht : to0 < 8) : okL (wkN N n tn fr to0) n tn ∧ (∀ k, 156 ≤ k → wkN N n tn fr to0 k = N k) ∧ wkM N n tn fr to0 ≤ 120000 := by
  have h := wkW_ok ok hf ht
  have h14 := ok.2.1
  refine ⟨okL_agr h.1 (wkE_ne (by omega)) (wkE_ne (by omega)) (wkE_ne (by omega)) (wkE_ne (by omega)) (fun b hb => okB_agr (fun k hk => wkE_ne (by omega)) (h.1.2.2.2.2.1 b hb)) (fun k hk => wkE_ne (by omega)), fun k hk => (wkE_ne (by omega)).trans (h.2.1 k hk), ?_⟩
  have := h.2.2.1
  have := h.2.2.2.1
  unfold wkM
  omega
def itN (N : Row) (n tn fr to0 : Nat) : Nat → Row
  | 0 => N
  | k + 1 => wkN (itN N n tn fr to0 k) n tn fr to0
theorem itN_ok {N : Row} {n tn fr to0 : Nat} (ok : okL N n tn) (hf : fr < 8) (ht : to0 < 8) : ∀ k, okL (itN N n tn fr to0 k) n tn ∧ ∀ j, 156 ≤ j → itN N n tn fr to0 k j = N j
  | 0 => ⟨ok, fun _ _ => rfl⟩
  | k + 1 => by
    obtain ⟨h1, h2⟩ := itN_ok ok hf ht k
    obtain ⟨h3, h4, -⟩ := wkN_ok h1 hf ht
    exact ⟨h3, fun j hj => (h4 j hj).trans (h2 j hj)⟩
/-- minutes as the costs, but for a bit w, and for those that are barred -/
def bcs (N : Row) (tn : Nat) (w : Int32) (b : Nat) : Nat := if nI b = w ∨ brd N b = true then 0 else tkk N tn b
def bst (N : Row) (n tn : Nat) (w : Int32) (fr to0 : Nat) : Nat := dst (ed N) (bcs N tn w) n to0 fr
def nway (x : Nat) : Int32 := if 1000000 ≤ x then cNONE else nI x
end PU6
section M10
variable {g : Geo} {I : IM} {K : Option Value → Geo → IM → Prop}
theorem c_M_copyRow {i j ni nj n : Nat} (hi : isAg g i 100 ni) (hj : isAg g j 100 nj) (h1 : n ≤ ni) (h2 : n ≤ nj) (hni : ni < 100000) (hnj : nj < 100000) (hne : i ≠ j) (kk : K none g (va_up I j (cpy n (I i) (I j)))) : Cl 1 M_M_copyRow [.ref i, .ref j, .int (nI n)] g I K := by
  show Rl 1 M_M_copyRow 0 [some (.ref i), some (.ref j), some (.int (nI n)), none] [] g I K
  have loop : ∀ q k, k + q = n → Rl 1 M_M_copyRow 2 [some (.ref i), some (.ref j), some (.int (nI n)), some (.int (nI k))] [] g (va_up I j (cpy k (I i) (I j))) K := by
    intro q
    induction q with
    | zero =>
      intro k hk
      have hk : k = n := by omega
      subst hk
      repeat' (first
        | refine T_iconst (v := (nI 0)) (pc1 := 1) (pc := 0) k_M_copyRow_0 rfl (by decide) ?_
        | refine T_istore_n (pc1 := 2) (pc := 1) k_M_copyRow_1 rfl (Nat.le_of_ble_eq_true rfl) ?_
        | refine T_iload_n (pc1 := 3) (pc := 2) k_M_copyRow_2 rfl rfl ?_
        | refine T_iload_n (pc1 := 4) (pc := 3) k_M_copyRow_3 rfl rfl ?_
        | (with_reducible refine T_icmp_geN (tgt := 19) (pc1 := 7) (pc := 4) k_M_copyRow_4 (by decide) (by decide) (by omega) (by omega) (fun hc => ?_) (fun hc => ?_) <;> first | (exfalso; omega) | skip)
        | refine T_icmp_ge_t (tgt := 19) (pc := 4) k_M_copyRow_4 rfl (by decide) ?_
        | refine T_icmp_ge_f (tgt := 19) (pc1 := 7) (pc := 4) k_M_copyRow_4 rfl rfl (by decide) ?_
        | refine T_icmp_ge (tgt := 19) (pc1 := 7) (pc := 4) k_M_copyRow_4 rfl rfl (fun hc => ?_) (fun hc => ?_)
        | refine T_aload_n (pc1 := 8) (pc := 7) k_M_copyRow_7 rfl rfl ?_
        | refine T_aload_nN (pc1 := 8) (pc := 7) k_M_copyRow_7 rfl rfl ?_
        | refine T_iload_n (pc1 := 9) (pc := 8) k_M_copyRow_8 rfl rfl ?_
        | refine T_aload_n (pc1 := 10) (pc := 9) k_M_copyRow_9 rfl rfl ?_
        | refine T_aload_nN (pc1 := 10) (pc := 9) k_M_copyRow_9 rfl rfl ?_
        | refine T_iload_n (pc1 := 11) (pc := 10) k_M_copyRow_10 rfl rfl ?_
        | refine T_ialdN (pc1 := 12) (pc := 11) k_M_copyRow_11 rfl (by first | exact ga G (by decide) rfl | assumption) (by omega) (by omega) (by first | assumption | (simp (disch := omega) only [pI_eq, pI_row, pI_col, va_up_self, va_up_ne, ne_eq, not_false_eq_true, hJN] <;> rfl) | rfl) ?_
        | refine T_iald (pc1 := 12) (pc := 11) k_M_copyRow_11 rfl (by first | exact ga G (by decide) rfl | assumption) (by assumption) ?_
        | refine T_iastN (pc1 := 13) (pc := 12) k_M_copyRow_12 rfl (by first | exact ga G (by decide) rfl | assumption) (by omega) (by omega) ?_
        | refine T_iincN (b := 1) (pc1 := 16) (pc := 13) k_M_copyRow_13 rfl rfl (by decide) ?_
        | refine T_iinc (v := (nI 1)) (pc1 := 16) (pc := 13) k_M_copyRow_13 rfl rfl (by decide) ?_
        | refine T_goto (tgt := 2) (pc := 16) k_M_copyRow_16 rfl ?_
        | refine T_retV (pc := 19) k_M_copyRow_19 rfl ?_)
      exact kk
    | succ q ih =>
      intro k hk
      have hr : va_up I j (cpy k (I i) (I j)) i k = I i k := by rw [va_up_ne _ _ hne]
      refine T_iload_n (pc1 := 3) (pc := 2) k_M_copyRow_2 rfl rfl ?_
      repeat' (first
        | refine T_iconst (v := (nI 0)) (pc1 := 1) (pc := 0) k_M_copyRow_0 rfl (by decide) ?_
        | refine T_istore_n (pc1 := 2) (pc := 1) k_M_copyRow_1 rfl (Nat.le_of_ble_eq_true rfl) ?_
        | refine T_iload_n (pc1 := 4) (pc := 3) k_M_copyRow_3 rfl rfl ?_
        | (with_reducible refine T_icmp_geN (tgt := 19) (pc1 := 7) (pc := 4) k_M_copyRow_4 (by decide) (by decide) (by omega) (by omega) (fun hc => ?_) (fun hc => ?_) <;> first | (exfalso; omega) | skip)
        | refine T_icmp_ge_t (tgt := 19) (pc := 4) k_M_copyRow_4 rfl (by decide) ?_
        | refine T_icmp_ge_f (tgt := 19) (pc1 := 7) (pc := 4) k_M_copyRow_4 rfl rfl (by decide) ?_
        | refine T_icmp_ge (tgt := 19) (pc1 := 7) (pc := 4) k_M_copyRow_4 rfl rfl (fun hc => ?_) (fun hc => ?_)
        | refine T_aload_n (pc1 := 8) (pc := 7) k_M_copyRow_7 rfl rfl ?_
        | refine T_aload_nN (pc1 := 8) (pc := 7) k_M_copyRow_7 rfl rfl ?_
        | refine T_iload_n (pc1 := 9) (pc := 8) k_M_copyRow_8 rfl rfl ?_
        | refine T_aload_n (pc1 := 10) (pc := 9) k_M_copyRow_9 rfl rfl ?_
        | refine T_aload_nN (pc1 := 10) (pc := 9) k_M_copyRow_9 rfl rfl ?_
        | refine T_iload_n (pc1 := 11) (pc := 10) k_M_copyRow_10 rfl rfl ?_
        | refine T_ialdN (pc1 := 12) (pc := 11) k_M_copyRow_11 rfl hi (by omega) (by omega) hr ?_
        | refine T_iastN (pc1 := 13) (pc := 12) k_M_copyRow_12 rfl hj (by omega) (by omega) ?_
        | refine T_iincN (b := 1) (pc1 := 16) (pc := 13) k_M_copyRow_13 rfl rfl (by decide) ?_
        | refine T_iinc (v := (nI 1)) (pc1 := 16) (pc := 13) k_M_copyRow_13 rfl rfl (by decide) ?_
        | refine T_goto (tgt := 2) (pc := 16) k_M_copyRow_16 rfl ?_
        | refine T_retV (pc := 19) k_M_copyRow_19 rfl ?_)
      have e : pI (va_up I j (cpy k (I i) (I j))) j k (I i k) = va_up I j (cpy (k + 1) (I i) (I j)) := by
        unfold pI
        rw [va_up_self, bx_uu, cpy_s]
      rw [e]
      exact ih (k + 1) (by omega)
  repeat' (first
    | refine T_iconst (v := (nI 0)) (pc1 := 1) (pc := 0) k_M_copyRow_0 rfl (by decide) ?_
    | refine T_istore_n (pc1 := 2) (pc := 1) k_M_copyRow_1 rfl (Nat.le_of_ble_eq_true rfl) ?_
    | refine T_iload_n (pc1 := 4) (pc := 3) k_M_copyRow_3 rfl rfl ?_
    | (with_reducible refine T_icmp_geN (tgt := 19) (pc1 := 7) (pc := 4) k_M_copyRow_4 (by decide) (by decide) (by omega) (by omega) (fun hc => ?_) (fun hc => ?_) <;> first | (exfalso; omega) | skip)
    | refine T_icmp_ge_t (tgt := 19) (pc := 4) k_M_copyRow_4 rfl (by decide) ?_
    | refine T_icmp_ge_f (tgt := 19) (pc1 := 7) (pc := 4) k_M_copyRow_4 rfl rfl (by decide) ?_
    | refine T_icmp_ge (tgt := 19) (pc1 := 7) (pc := 4) k_M_copyRow_4 rfl rfl (fun hc => ?_) (fun hc => ?_)
    | refine T_aload_n (pc1 := 8) (pc := 7) k_M_copyRow_7 rfl rfl ?_
    | refine T_aload_nN (pc1 := 8) (pc := 7) k_M_copyRow_7 rfl rfl ?_
    | refine T_iload_n (pc1 := 9) (pc := 8) k_M_copyRow_8 rfl rfl ?_
    | refine T_aload_n (pc1 := 10) (pc := 9) k_M_copyRow_9 rfl rfl ?_
    | refine T_aload_nN (pc1 := 10) (pc := 9) k_M_copyRow_9 rfl rfl ?_
    | refine T_iload_n (pc1 := 11) (pc := 10) k_M_copyRow_10 rfl rfl ?_
    | refine T_ialdN (pc1 := 12) (pc := 11) k_M_copyRow_11 rfl hi (by omega) (by omega) hr ?_
    | refine T_iastN (pc1 := 13) (pc := 12) k_M_copyRow_12 rfl hj (by omega) (by omega) ?_
    | refine T_iincN (b := 1) (pc1 := 16) (pc := 13) k_M_copyRow_13 rfl rfl (by decide) ?_
    | refine T_iinc (v := (nI 1)) (pc1 := 16) (pc := 13) k_M_copyRow_13 rfl rfl (by decide) ?_
    | refine T_goto (tgt := 2) (pc := 16) k_M_copyRow_16 rfl ?_
    | refine T_retV (pc := 19) k_M_copyRow_19 rfl ?_)
  have e := loop n 0 (by omega)
  rw [cpy_0] at e
  have e2 : va_up I j (I j) = I := by
    funext x
    by_cases hx : x = j
    · subst hx; rw [va_up_self]
    · rw [va_up_ne _ _ hx]
  rw [e2] at e
  exact e
theorem c_M_putBack {v : Int32} (G : GeoOK g) (kk : K (some (.int v)) g (va_up I 102 (cpy 156 (I 104) (I 102)))) : Cl 2 M_M_putBack [.ref 101, .int v] g I K := by
  show Rl 2 M_M_putBack 0 [some (.ref 101), some (.int v)] [] g I K
  repeat' (first
    | refine T_aload_n (pc1 := 1) (pc := 0) k_M_putBack_0 rfl rfl ?_
    | refine T_aload_nN (pc1 := 1) (pc := 0) k_M_putBack_0 rfl rfl ?_
    | refine T_getR (pc1 := 4) (pc := 1) k_M_putBack_1 rfl f_M_16 rfl (by first | exact ga G (by decide) rfl | assumption) (by first | exact gr G (by decide) rfl | assumption) ?_
    | refine T_aload_n (pc1 := 5) (pc := 4) k_M_putBack_4 rfl rfl ?_
    | refine T_aload_nN (pc1 := 5) (pc := 4) k_M_putBack_4 rfl rfl ?_
    | refine T_getR (pc1 := 8) (pc := 5) k_M_putBack_5 rfl f_M_9 rfl (by first | exact ga G (by decide) rfl | assumption) (by first | exact gr G (by decide) rfl | assumption) ?_
    | refine T_sipush (v := (nI 156)) (pc1 := 11) (pc := 8) k_M_putBack_8 rfl (by decide) ?_
    | (refine T_cS (As := [_, _, _]) (d1 := 1) (pc1 := 14) (pc := 11) k_M_putBack_11 rfl (by decide) (Nat.le_of_ble_eq_true rfl) rfl o_M_copyRow l_M_91 rfl (c_M_copyRow (ga G (by decide) rfl) (ga G (by decide) rfl) (by omega) (by omega) (by omega) (by omega) (by decide) ?_) <;> try dsimp only [psh])
    | refine T_iload_n (pc1 := 15) (pc := 14) k_M_putBack_14 rfl rfl ?_
    | refine T_retI (pc := 15) k_M_putBack_15 rfl (by first | rfl | decide | assumption) ?_)
  exact kk
theorem c_M_latest {N : Row} {w : Int32} (G : GeoOK g) (hN : I 102 = N) (kk : K (some (.int (if rg 4 w then (if N 7 = 0 then cNONE else N (8 + w.toNatClampNeg)) else cBAD))) g I) : Cl 2 M_M_latest [.ref 101, .int w] g I K := by
  show Rl 2 M_M_latest 0 [some (.ref 101), some (.int w)] [] g I K
  have e0 : (nI 0).toInt = 0 := rfl
  have e3 : (nI 3).toInt = 3 := rfl
  by_cases hw : rg 4 w
  · rw [if_pos hw] at kk
    obtain ⟨j, hj, rfl⟩ := rg_of hw (by decide)
    rw [nI_clamp (by omega)] at kk
    have ej := nI_toInt (n := j) (by omega)
    repeat' (first
      | refine T_iload_n (pc1 := 1) (pc := 0) k_M_latest_0 rfl rfl ?_
      | refine T_iconst (v := (nI 0)) (pc1 := 2) (pc := 1) k_M_latest_1 rfl (by decide) ?_
      | refine T_iconst (v := (nI 3)) (pc1 := 3) (pc := 2) k_M_latest_2 rfl (by decide) ?_
      | (refine T_cS (As := [_, _, _]) (d1 := 1) (pc1 := 6) (pc := 3) k_M_latest_3 rfl (by decide) (Nat.le_of_ble_eq_true rfl) rfl o_M_within l_M_95 rfl (c_M_within (fun hw => ?_) (fun hw => ?_)) <;> try dsimp only [psh])
      | (with_reducible refine T_if_neN (tgt := 12) (pc1 := 9) (pc := 6) k_M_latest_6 (by decide) (by decide) (by omega) (fun hc => ?_) (fun hc => ?_) <;> first | (exfalso; omega) | skip)
      | refine T_if_ne_t (tgt := 12) (pc := 6) k_M_latest_6 rfl (by decide) ?_
      | refine T_if_ne_f (tgt := 12) (pc1 := 9) (pc := 6) k_M_latest_6 rfl rfl (by decide) ?_
      | refine T_if_ne (tgt := 12) (pc1 := 9) (pc := 6) k_M_latest_6 rfl rfl (fun hc => ?_) (fun hc => ?_)
      | refine T_ldc (v := (-1000000001)) (pc1 := 11) (pc := 9) k_M_latest_9 rfl c_M_111 ?_
      | refine T_retI (pc := 11) k_M_latest_11 rfl (by first | rfl | decide | assumption) ?_
      | refine T_aload_n (pc1 := 13) (pc := 12) k_M_latest_12 rfl rfl ?_
      | refine T_aload_nN (pc1 := 13) (pc := 12) k_M_latest_12 rfl rfl ?_
      | refine T_getR (pc1 := 16) (pc := 13) k_M_latest_13 rfl f_M_9 rfl (by first | exact ga G (by decide) rfl | assumption) (by first | exact gr G (by decide) rfl | assumption) ?_
      | refine T_bipush (v := (nI 7)) (pc1 := 18) (pc := 16) k_M_latest_16 rfl (by decide) ?_
      | refine T_ialdN (pc1 := 19) (pc := 18) k_M_latest_18 rfl (by first | exact ga G (by decide) rfl | assumption) (by omega) (by omega) (by first | assumption | (simp (disch := omega) only [pI_eq, pI_row, pI_col, va_up_self, va_up_ne, ne_eq, not_false_eq_true, hN] <;> rfl) | rfl) ?_
      | refine T_iald (pc1 := 19) (pc := 18) k_M_latest_18 rfl (by first | exact ga G (by decide) rfl | assumption) (by assumption) ?_
      | (with_reducible refine T_if_neN (tgt := 27) (pc1 := 22) (pc := 19) k_M_latest_19 (by decide) (by decide) (by omega) (fun hc => ?_) (fun hc => ?_) <;> first | (exfalso; omega) | skip)
      | refine T_if_ne_t (tgt := 27) (pc := 19) k_M_latest_19 rfl (by decide) ?_
      | refine T_if_ne_f (tgt := 27) (pc1 := 22) (pc := 19) k_M_latest_19 rfl rfl (by decide) ?_
      | refine T_if_ne (tgt := 27) (pc1 := 22) (pc := 19) k_M_latest_19 rfl rfl (fun hc => ?_) (fun hc => ?_)
      | refine T_ldc (v := (-1000000005)) (pc1 := 24) (pc := 22) k_M_latest_22 rfl c_M_103 ?_
      | refine T_goto (tgt := 36) (pc := 24) k_M_latest_24 rfl ?_
      | refine T_aload_n (pc1 := 28) (pc := 27) k_M_latest_27 rfl rfl ?_
      | refine T_aload_nN (pc1 := 28) (pc := 27) k_M_latest_27 rfl rfl ?_
      | refine T_getR (pc1 := 31) (pc := 28) k_M_latest_28 rfl f_M_9 rfl (by first | exact ga G (by decide) rfl | assumption) (by first | exact gr G (by decide) rfl | assumption) ?_
      | refine T_bipush (v := (nI 8)) (pc1 := 33) (pc := 31) k_M_latest_31 rfl (by decide) ?_
      | refine T_iload_n (pc1 := 34) (pc := 33) k_M_latest_33 rfl rfl ?_
      | with_reducible refine T_iaddN (pc1 := 35) (pc := 34) k_M_latest_34 (by decide) ?_
      | refine T_iadd (pc1 := 35) (pc := 34) k_M_latest_34 rfl ?_
      | refine T_ialdN (pc1 := 36) (pc := 35) k_M_latest_35 rfl (by first | exact ga G (by decide) rfl | assumption) (by omega) (by omega) (by first | assumption | (simp (disch := omega) only [pI_eq, pI_row, pI_col, va_up_self, va_up_ne, ne_eq, not_false_eq_true, hN] <;> rfl) | rfl) ?_
      | refine T_iald (pc1 := 36) (pc := 35) k_M_latest_35 rfl (by first | exact ga G (by decide) rfl | assumption) (by assumption) ?_
      | refine T_retI (pc := 36) k_M_latest_36 rfl (by first | rfl | decide | assumption) ?_)
    all_goals first | (rw [if_neg (by assumption)] at kk; exact kk) | (rw [if_pos (Decidable.not_not.mp (by assumption))] at kk; exact kk) | (exfalso; omega)
  · rw [if_neg hw] at kk
    repeat' (first
      | refine T_iload_n (pc1 := 1) (pc := 0) k_M_latest_0 rfl rfl ?_
      | refine T_iconst (v := (nI 0)) (pc1 := 2) (pc := 1) k_M_latest_1 rfl (by decide) ?_
      | refine T_iconst (v := (nI 3)) (pc1 := 3) (pc := 2) k_M_latest_2 rfl (by decide) ?_
      | (refine T_cS (As := [_, _, _]) (d1 := 1) (pc1 := 6) (pc := 3) k_M_latest_3 rfl (by decide) (Nat.le_of_ble_eq_true rfl) rfl o_M_within l_M_95 rfl (c_M_within (fun hw => ?_) (fun hw => ?_)) <;> try dsimp only [psh])
      | (with_reducible refine T_if_neN (tgt := 12) (pc1 := 9) (pc := 6) k_M_latest_6 (by decide) (by decide) (by omega) (fun hc => ?_) (fun hc => ?_) <;> first | (exfalso; omega) | skip)
      | refine T_if_ne_t (tgt := 12) (pc := 6) k_M_latest_6 rfl (by decide) ?_
      | refine T_if_ne_f (tgt := 12) (pc1 := 9) (pc := 6) k_M_latest_6 rfl rfl (by decide) ?_
      | refine T_if_ne (tgt := 12) (pc1 := 9) (pc := 6) k_M_latest_6 rfl rfl (fun hc => ?_) (fun hc => ?_)
      | refine T_ldc (v := (-1000000001)) (pc1 := 11) (pc := 9) k_M_latest_9 rfl c_M_111 ?_
      | refine T_retI (pc := 11) k_M_latest_11 rfl (by first | rfl | decide | assumption) ?_
      | refine T_aload_n (pc1 := 13) (pc := 12) k_M_latest_12 rfl rfl ?_
      | refine T_aload_nN (pc1 := 13) (pc := 12) k_M_latest_12 rfl rfl ?_
      | refine T_getR (pc1 := 16) (pc := 13) k_M_latest_13 rfl f_M_9 rfl (by first | exact ga G (by decide) rfl | assumption) (by first | exact gr G (by decide) rfl | assumption) ?_
      | refine T_bipush (v := (nI 7)) (pc1 := 18) (pc := 16) k_M_latest_16 rfl (by decide) ?_
      | refine T_ialdN (pc1 := 19) (pc := 18) k_M_latest_18 rfl (by first | exact ga G (by decide) rfl | assumption) (by omega) (by omega) (by first | assumption | (simp (disch := omega) only [pI_eq, pI_row, pI_col, va_up_self, va_up_ne, ne_eq, not_false_eq_true, hN] <;> rfl) | rfl) ?_
      | refine T_iald (pc1 := 19) (pc := 18) k_M_latest_18 rfl (by first | exact ga G (by decide) rfl | assumption) (by assumption) ?_
      | (with_reducible refine T_if_neN (tgt := 27) (pc1 := 22) (pc := 19) k_M_latest_19 (by decide) (by decide) (by omega) (fun hc => ?_) (fun hc => ?_) <;> first | (exfalso; omega) | skip)
      | refine T_if_ne_t (tgt := 27) (pc := 19) k_M_latest_19 rfl (by decide) ?_
      | refine T_if_ne_f (tgt := 27) (pc1 := 22) (pc := 19) k_M_latest_19 rfl rfl (by decide) ?_
      | refine T_if_ne (tgt := 27) (pc1 := 22) (pc := 19) k_M_latest_19 rfl rfl (fun hc => ?_) (fun hc => ?_)
      | refine T_ldc (v := (-1000000005)) (pc1 := 24) (pc := 22) k_M_latest_22 rfl c_M_103 ?_
      | refine T_goto (tgt := 36) (pc := 24) k_M_latest_24 rfl ?_
      | refine T_aload_n (pc1 := 28) (pc := 27) k_M_latest_27 rfl rfl ?_
      | refine T_aload_nN (pc1 := 28) (pc := 27) k_M_latest_27 rfl rfl ?_
      | refine T_getR (pc1 := 31) (pc := 28) k_M_latest_28 rfl f_M_9 rfl (by first | exact ga G (by decide) rfl | assumption) (by first | exact gr G (by decide) rfl | assumption) ?_
      | refine T_bipush (v := (nI 8)) (pc1 := 33) (pc := 31) k_M_latest_31 rfl (by decide) ?_
      | refine T_iload_n (pc1 := 34) (pc := 33) k_M_latest_33 rfl rfl ?_
      | with_reducible refine T_iaddN (pc1 := 35) (pc := 34) k_M_latest_34 (by decide) ?_
      | refine T_iadd (pc1 := 35) (pc := 34) k_M_latest_34 rfl ?_
      | refine T_ialdN (pc1 := 36) (pc := 35) k_M_latest_35 rfl (by first | exact ga G (by decide) rfl | assumption) (by omega) (by omega) (by first | assumption | (simp (disch := omega) only [pI_eq, pI_row, pI_col, va_up_self, va_up_ne, ne_eq, not_false_eq_true, hN] <;> rfl) | rfl) ?_
      | refine T_iald (pc1 := 36) (pc := 35) k_M_latest_35 rfl (by first | exact ga G (by decide) rfl | assumption) (by assumption) ?_
      | refine T_retI (pc := 36) k_M_latest_36 rfl (by first | rfl | decide | assumption) ?_)
    all_goals first | exact kk | (exfalso; apply hw; constructor <;> omega)
/-- what try i was, or -1 -/
def trA (N : Row) (i : Int32) : Int32 := if N 7 = nI 1 ∧ i.toInt < (N 9).toInt then N (96 + i.toNatClampNeg) else -1
theorem c_M_triedAt {N : Row} {i : Int32} {tr : Nat} (G : GeoOK g) (hN : I 102 = N) (h9 : N 9 = nI tr) (h60 : tr ≤ 60) (hi : 0 ≤ i.toInt) {v : Int32} (hv : trA N i = v) (kk : K (some (.int v)) g I) : Cl 1 M_M_triedAt [.ref 101, .int i] g I K := by
  show Rl 1 M_M_triedAt 0 [some (.ref 101), some (.int i)] [] g I K
  have e9 := nI_toInt (n := tr) (by omega)
  by_cases c1 : i.toInt < tr
  · obtain ⟨j, hj, rfl⟩ := rg_of (n := tr) (v := i) ⟨hi, c1⟩ (by omega)
    rw [trA, h9, e9, nI_clamp (by omega)] at hv
    repeat' (first
      | refine T_aload_n (pc1 := 1) (pc := 0) k_M_triedAt_0 rfl rfl ?_
      | refine T_aload_nN (pc1 := 1) (pc := 0) k_M_triedAt_0 rfl rfl ?_
      | refine T_getR (pc1 := 4) (pc := 1) k_M_triedAt_1 rfl f_M_9 rfl (by first | exact ga G (by decide) rfl | assumption) (by first | exact gr G (by decide) rfl | assumption) ?_
      | refine T_bipush (v := (nI 7)) (pc1 := 6) (pc := 4) k_M_triedAt_4 rfl (by decide) ?_
      | refine T_ialdN (pc1 := 7) (pc := 6) k_M_triedAt_6 rfl (by first | exact ga G (by decide) rfl | assumption) (by omega) (by omega) (by first | assumption | (simp (disch := omega) only [pI_eq, pI_row, pI_col, va_up_self, va_up_ne, ne_eq, not_false_eq_true, hN, h9] <;> rfl) | rfl) ?_
      | refine T_iald (pc1 := 7) (pc := 6) k_M_triedAt_6 rfl (by first | exact ga G (by decide) rfl | assumption) (by assumption) ?_
      | refine T_iconst (v := (nI 1)) (pc1 := 8) (pc := 7) k_M_triedAt_7 rfl (by decide) ?_
      | (with_reducible refine T_icmp_neN (tgt := 34) (pc1 := 11) (pc := 8) k_M_triedAt_8 (by decide) (by decide) (by omega) (by omega) (fun hc => ?_) (fun hc => ?_) <;> first | (exfalso; omega) | skip)
      | refine T_icmp_ne_t (tgt := 34) (pc := 8) k_M_triedAt_8 rfl (by decide) ?_
      | refine T_icmp_ne_f (tgt := 34) (pc1 := 11) (pc := 8) k_M_triedAt_8 rfl rfl (by decide) ?_
      | refine T_icmp_ne (tgt := 34) (pc1 := 11) (pc := 8) k_M_triedAt_8 rfl rfl (fun hc => ?_) (fun hc => ?_)
      | refine T_iload_n (pc1 := 12) (pc := 11) k_M_triedAt_11 rfl rfl ?_
      | refine T_aload_n (pc1 := 13) (pc := 12) k_M_triedAt_12 rfl rfl ?_
      | refine T_aload_nN (pc1 := 13) (pc := 12) k_M_triedAt_12 rfl rfl ?_
      | refine T_getR (pc1 := 16) (pc := 13) k_M_triedAt_13 rfl f_M_9 rfl (by first | exact ga G (by decide) rfl | assumption) (by first | exact gr G (by decide) rfl | assumption) ?_
      | refine T_bipush (v := (nI 9)) (pc1 := 18) (pc := 16) k_M_triedAt_16 rfl (by decide) ?_
      | refine T_ialdN (pc1 := 19) (pc := 18) k_M_triedAt_18 rfl (by first | exact ga G (by decide) rfl | assumption) (by omega) (by omega) (by first | assumption | (simp (disch := omega) only [pI_eq, pI_row, pI_col, va_up_self, va_up_ne, ne_eq, not_false_eq_true, hN, h9] <;> rfl) | rfl) ?_
      | refine T_iald (pc1 := 19) (pc := 18) k_M_triedAt_18 rfl (by first | exact ga G (by decide) rfl | assumption) (by assumption) ?_
      | (with_reducible refine T_icmp_geN (tgt := 34) (pc1 := 22) (pc := 19) k_M_triedAt_19 (by decide) (by decide) (by omega) (by omega) (fun hc => ?_) (fun hc => ?_) <;> first | (exfalso; omega) | skip)
      | refine T_icmp_ge_t (tgt := 34) (pc := 19) k_M_triedAt_19 rfl (by decide) ?_
      | refine T_icmp_ge_f (tgt := 34) (pc1 := 22) (pc := 19) k_M_triedAt_19 rfl rfl (by decide) ?_
      | refine T_icmp_ge (tgt := 34) (pc1 := 22) (pc := 19) k_M_triedAt_19 rfl rfl (fun hc => ?_) (fun hc => ?_)
      | refine T_aload_n (pc1 := 23) (pc := 22) k_M_triedAt_22 rfl rfl ?_
      | refine T_aload_nN (pc1 := 23) (pc := 22) k_M_triedAt_22 rfl rfl ?_
      | refine T_getR (pc1 := 26) (pc := 23) k_M_triedAt_23 rfl f_M_9 rfl (by first | exact ga G (by decide) rfl | assumption) (by first | exact gr G (by decide) rfl | assumption) ?_
      | refine T_bipush (v := (nI 96)) (pc1 := 28) (pc := 26) k_M_triedAt_26 rfl (by decide) ?_
      | refine T_iload_n (pc1 := 29) (pc := 28) k_M_triedAt_28 rfl rfl ?_
      | with_reducible refine T_iaddN (pc1 := 30) (pc := 29) k_M_triedAt_29 (by decide) ?_
      | refine T_iadd (pc1 := 30) (pc := 29) k_M_triedAt_29 rfl ?_
      | refine T_ialdN (pc1 := 31) (pc := 30) k_M_triedAt_30 rfl (by first | exact ga G (by decide) rfl | assumption) (by omega) (by omega) (by first | assumption | (simp (disch := omega) only [pI_eq, pI_row, pI_col, va_up_self, va_up_ne, ne_eq, not_false_eq_true, hN, h9] <;> rfl) | rfl) ?_
      | refine T_iald (pc1 := 31) (pc := 30) k_M_triedAt_30 rfl (by first | exact ga G (by decide) rfl | assumption) (by assumption) ?_
      | refine T_goto (tgt := 35) (pc := 31) k_M_triedAt_31 rfl ?_
      | refine T_iconst (v := (-1)) (pc1 := 35) (pc := 34) k_M_triedAt_34 rfl (by decide) ?_
      | refine T_retI (pc := 35) k_M_triedAt_35 rfl (by first | rfl | decide | assumption) ?_)
    all_goals first | (rw [if_neg (fun q => by first | exact absurd q.1 (by assumption) | omega)] at hv; rw [← hv] at kk; exact kk) | (rw [if_pos ⟨Decidable.not_not.mp (by assumption), by omega⟩] at hv; rw [← hv] at kk; exact kk)
  · rw [trA, if_neg (fun q => c1 (by rw [h9, e9] at q; exact q.2))] at hv
    rw [← hv] at kk
    repeat' (first
      | refine T_aload_n (pc1 := 1) (pc := 0) k_M_triedAt_0 rfl rfl ?_
      | refine T_aload_nN (pc1 := 1) (pc := 0) k_M_triedAt_0 rfl rfl ?_
      | refine T_getR (pc1 := 4) (pc := 1) k_M_triedAt_1 rfl f_M_9 rfl (by first | exact ga G (by decide) rfl | assumption) (by first | exact gr G (by decide) rfl | assumption) ?_
      | refine T_bipush (v := (nI 7)) (pc1 := 6) (pc := 4) k_M_triedAt_4 rfl (by decide) ?_
      | refine T_ialdN (pc1 := 7) (pc := 6) k_M_triedAt_6 rfl (by first | exact ga G (by decide) rfl | assumption) (by omega) (by omega) (by first | assumption | (simp (disch := omega) only [pI_eq, pI_row, pI_col, va_up_self, va_up_ne, ne_eq, not_false_eq_true, hN, h9] <;> rfl) | rfl) ?_
      | refine T_iald (pc1 := 7) (pc := 6) k_M_triedAt_6 rfl (by first | exact ga G (by decide) rfl | assumption) (by assumption) ?_
      | refine T_iconst (v := (nI 1)) (pc1 := 8) (pc := 7) k_M_triedAt_7 rfl (by decide) ?_
      | (with_reducible refine T_icmp_neN (tgt := 34) (pc1 := 11) (pc := 8) k_M_triedAt_8 (by decide) (by decide) (by omega) (by omega) (fun hc => ?_) (fun hc => ?_) <;> first | (exfalso; omega) | skip)
      | refine T_icmp_ne_t (tgt := 34) (pc := 8) k_M_triedAt_8 rfl (by decide) ?_
      | refine T_icmp_ne_f (tgt := 34) (pc1 := 11) (pc := 8) k_M_triedAt_8 rfl rfl (by decide) ?_
      | refine T_icmp_ne (tgt := 34) (pc1 := 11) (pc := 8) k_M_triedAt_8 rfl rfl (fun hc => ?_) (fun hc => ?_)
      | refine T_iload_n (pc1 := 12) (pc := 11) k_M_triedAt_11 rfl rfl ?_
      | refine T_aload_n (pc1 := 13) (pc := 12) k_M_triedAt_12 rfl rfl ?_
      | refine T_aload_nN (pc1 := 13) (pc := 12) k_M_triedAt_12 rfl rfl ?_
      | refine T_getR (pc1 := 16) (pc := 13) k_M_triedAt_13 rfl f_M_9 rfl (by first | exact ga G (by decide) rfl | assumption) (by first | exact gr G (by decide) rfl | assumption) ?_
      | refine T_bipush (v := (nI 9)) (pc1 := 18) (pc := 16) k_M_triedAt_16 rfl (by decide) ?_
      | refine T_ialdN (pc1 := 19) (pc := 18) k_M_triedAt_18 rfl (by first | exact ga G (by decide) rfl | assumption) (by omega) (by omega) (by first | assumption | (simp (disch := omega) only [pI_eq, pI_row, pI_col, va_up_self, va_up_ne, ne_eq, not_false_eq_true, hN, h9] <;> rfl) | rfl) ?_
      | refine T_iald (pc1 := 19) (pc := 18) k_M_triedAt_18 rfl (by first | exact ga G (by decide) rfl | assumption) (by assumption) ?_
      | (with_reducible refine T_icmp_geN (tgt := 34) (pc1 := 22) (pc := 19) k_M_triedAt_19 (by decide) (by decide) (by omega) (by omega) (fun hc => ?_) (fun hc => ?_) <;> first | (exfalso; omega) | skip)
      | refine T_icmp_ge_t (tgt := 34) (pc := 19) k_M_triedAt_19 rfl (by decide) ?_
      | refine T_icmp_ge_f (tgt := 34) (pc1 := 22) (pc := 19) k_M_triedAt_19 rfl rfl (by decide) ?_
      | refine T_icmp_ge (tgt := 34) (pc1 := 22) (pc := 19) k_M_triedAt_19 rfl rfl (fun hc => ?_) (fun hc => ?_)
      | refine T_getR (pc1 := 26) (pc := 23) k_M_triedAt_23 rfl f_M_9 rfl (by first | exact ga G (by decide) rfl | assumption) (by first | exact gr G (by decide) rfl | assumption) ?_
      | refine T_bipush (v := (nI 96)) (pc1 := 28) (pc := 26) k_M_triedAt_26 rfl (by decide) ?_
      | refine T_iload_n (pc1 := 29) (pc := 28) k_M_triedAt_28 rfl rfl ?_
      | with_reducible refine T_iaddN (pc1 := 30) (pc := 29) k_M_triedAt_29 (by decide) ?_
      | refine T_iadd (pc1 := 30) (pc := 29) k_M_triedAt_29 rfl ?_
      | refine T_ialdN (pc1 := 31) (pc := 30) k_M_triedAt_30 rfl (by first | exact ga G (by decide) rfl | assumption) (by omega) (by omega) (by first | assumption | (simp (disch := omega) only [pI_eq, pI_row, pI_col, va_up_self, va_up_ne, ne_eq, not_false_eq_true, hN, h9] <;> rfl) | rfl) ?_
      | refine T_iald (pc1 := 31) (pc := 30) k_M_triedAt_30 rfl (by first | exact ga G (by decide) rfl | assumption) (by assumption) ?_
      | refine T_goto (tgt := 35) (pc := 31) k_M_triedAt_31 rfl ?_
      | refine T_iconst (v := (-1)) (pc1 := 35) (pc := 34) k_M_triedAt_34 rfl (by decide) ?_
      | refine T_retI (pc := 35) k_M_triedAt_35 rfl (by first | rfl | decide | assumption) ?_)
    all_goals first | exact kk | (exfalso; rw [le_toInt, e9] at *; omega)
def triA (N : Row) (i : Int32) : Int32 := if i.toInt < 0 then cBAD else if (trA N i).toInt < 0 then cNONE else trA N i
theorem c_M_tried {N : Row} {i : Int32} {tr : Nat} (G : GeoOK g) (hN : I 102 = N) (h9 : N 9 = nI tr) (h60 : tr ≤ 60) (kk : K (some (.int (triA N i))) g I) : Cl 2 M_M_tried [.ref 101, .int i] g I K := by
  show Rl 2 M_M_tried 0 [some (.ref 101), some (.int i)] [] g I K
  have e0 : (0 : Int32).toInt = 0 := rfl
  unfold triA at kk
  by_cases hi : i.toInt < 0
  · rw [if_pos hi] at kk
    repeat' (first
      | refine T_iload_n (pc1 := 1) (pc := 0) k_M_tried_0 rfl rfl ?_
      | (with_reducible refine T_if_geN (tgt := 7) (pc1 := 4) (pc := 1) k_M_tried_1 (by decide) (by decide) (by omega) ?_ <;> first | (exfalso; omega) | skip)
      | refine T_if_ge_t (tgt := 7) (pc := 1) k_M_tried_1 rfl (by decide) ?_
      | refine T_if_ge_f (tgt := 7) (pc1 := 4) (pc := 1) k_M_tried_1 rfl rfl (by decide) ?_
      | refine T_if_ge (tgt := 7) (pc1 := 4) (pc := 1) k_M_tried_1 rfl rfl (fun hc => ?_) (fun hc => ?_)
      | refine T_ldc (v := (-1000000001)) (pc1 := 6) (pc := 4) k_M_tried_4 rfl c_M_111 ?_
      | refine T_retI (pc := 6) k_M_tried_6 rfl (by first | rfl | decide | assumption) ?_)
    · exfalso; rw [le_toInt] at *; omega
    · exact kk
  · rw [if_neg hi] at kk
    have hi : 0 ≤ i.toInt := by omega
    repeat' (first
      | refine T_iload_n (pc1 := 1) (pc := 0) k_M_tried_0 rfl rfl ?_
      | (with_reducible refine T_if_geN (tgt := 7) (pc1 := 4) (pc := 1) k_M_tried_1 (by decide) (by decide) (by omega) ?_ <;> first | (exfalso; omega) | skip)
      | refine T_if_ge_t (tgt := 7) (pc := 1) k_M_tried_1 rfl (by decide) ?_
      | refine T_if_ge_f (tgt := 7) (pc1 := 4) (pc := 1) k_M_tried_1 rfl rfl (by decide) ?_
      | refine T_if_ge (tgt := 7) (pc1 := 4) (pc := 1) k_M_tried_1 rfl rfl (fun hc => ?_) (fun hc => ?_)
      | refine T_ldc (v := (-1000000001)) (pc1 := 6) (pc := 4) k_M_tried_4 rfl c_M_111 ?_
      | refine T_retI (pc := 6) k_M_tried_6 rfl (by first | rfl | decide | assumption) ?_
      | refine T_aload_n (pc1 := 8) (pc := 7) k_M_tried_7 rfl rfl ?_
      | refine T_aload_nN (pc1 := 8) (pc := 7) k_M_tried_7 rfl rfl ?_
      | refine T_iload_n (pc1 := 9) (pc := 8) k_M_tried_8 rfl rfl ?_
      | (refine T_cV (As := [_]) (d1 := 1) (pc1 := 12) (pc := 9) k_M_tried_9 rfl (by decide) (Nat.le_of_ble_eq_true rfl) rfl o_M_triedAt l_M_177 rfl (by first | exact ga G (by decide) rfl | assumption) rfl (c_M_triedAt G (by assumption) (by assumption) (by assumption) (by assumption) (by first | assumption | rfl) ?_) <;> try dsimp only [psh])
      | (with_reducible refine T_if_geN (tgt := 20) (pc1 := 15) (pc := 12) k_M_tried_12 (by decide) (by decide) (by omega) ?_ <;> first | (exfalso; omega) | skip)
      | refine T_if_ge_t (tgt := 20) (pc := 12) k_M_tried_12 rfl (by decide) ?_
      | refine T_if_ge_f (tgt := 20) (pc1 := 15) (pc := 12) k_M_tried_12 rfl rfl (by decide) ?_
      | refine T_if_ge (tgt := 20) (pc1 := 15) (pc := 12) k_M_tried_12 rfl rfl (fun hc => ?_) (fun hc => ?_)
      | refine T_ldc (v := (-1000000005)) (pc1 := 17) (pc := 15) k_M_tried_15 rfl c_M_103 ?_
      | refine T_goto (tgt := 25) (pc := 17) k_M_tried_17 rfl ?_
      | refine T_aload_n (pc1 := 21) (pc := 20) k_M_tried_20 rfl rfl ?_
      | refine T_aload_nN (pc1 := 21) (pc := 20) k_M_tried_20 rfl rfl ?_
      | refine T_iload_n (pc1 := 22) (pc := 21) k_M_tried_21 rfl rfl ?_
      | (refine T_cV (As := [_]) (d1 := 1) (pc1 := 25) (pc := 22) k_M_tried_22 rfl (by decide) (Nat.le_of_ble_eq_true rfl) rfl o_M_triedAt l_M_177 rfl (by first | exact ga G (by decide) rfl | assumption) rfl (c_M_triedAt G (by assumption) (by assumption) (by assumption) (by assumption) (by first | assumption | rfl) ?_) <;> try dsimp only [psh])
      | refine T_retI (pc := 25) k_M_tried_25 rfl (by first | rfl | decide | assumption) ?_)
    all_goals first | (rw [if_neg (by rw [le_toInt, e0] at *; omega)] at kk; exact kk) | (rw [if_pos (by rw [le_toInt, e0] at *; omega)] at kk; exact kk) | (exfalso; rw [le_toInt, e0] at *; omega)
end M10
