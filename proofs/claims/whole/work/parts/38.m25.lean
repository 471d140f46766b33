/-! The model: a text. -/
section PU16
def spl (T : Row) (p : PS) (j : Nat) : Bool := decide (pO p = 1 ∧ pE p - pS p = (strs.getD j []).length) && allB (fun i => decide (T (pS p + i) = (strs.getD j []).getD i 0)) (strs.getD j []).length
theorem allB_f {p : Nat → Bool} {k : Nat} (h : allB p k = false) : ∀ n, k ≤ n → allB p n = false := by
  intro n hn
  cases hx : allB p n with
  | false => rfl
  | true =>
    rw [(allB_iff k).mpr (fun j hj => (allB_iff n).mp hx j (by omega))] at h
    cases h
def keyOf (T : Row) (p : PS) : Option Nat := if spl T p 0 = true then some 0 else if spl T p 1 = true then some 1 else if spl T p 2 = true then some 2 else none
theorem keyOf_lt {T : Row} {p : PS} {k : Nat} (h : keyOf T p = some k) : k < 3 ∧ pO p = 1 := by
  have h1 : ∀ j, spl T p j = true → pO p = 1 := fun j hj => by
    unfold spl at hj
    rw [Bool.and_eq_true] at hj
    exact (of_decide_eq_true hj.1).1
  unfold keyOf at h
  by_cases c0 : spl T p 0 = true
  · rw [if_pos c0] at h; cases h; exact ⟨by decide, h1 _ c0⟩
  · rw [if_neg c0] at h
    by_cases c1 : spl T p 1 = true
    · rw [if_pos c1] at h; cases h; exact ⟨by decide, h1 _ c1⟩
    · rw [if_neg c1] at h
      by_cases c2 : spl T p 2 = true
      · rw [if_pos c2] at h; cases h; exact ⟨by decide, h1 _ c2⟩
      · rw [if_neg c2] at h; cases h
def p00 (C0 : Row) : PS := (0, 0, 0, 0, 0, C0)
def rdA (T : Row) (z : Nat) (C0 : Row) : Bool × Nat × PS := match keyOf T (nx T z (p00 C0)) with
  | none => (true, 0, nx T z (p00 C0))
  | some k => if (prs T z k 700 0 0 0 (nx T z (nx T z (p00 C0)))).1 = true then (true, k, (prs T z k 700 0 0 0 (nx T z (nx T z (p00 C0)))).2) else if pO (prs T z k 700 0 0 0 (nx T z (nx T z (p00 C0)))).2 = 0 then (false, k, (prs T z k 700 0 0 0 (nx T z (nx T z (p00 C0)))).2) else (true, k, (prs T z k 700 0 0 0 (nx T z (nx T z (p00 C0)))).2)
theorem okI_0 {C0 : Row} {nn : Nat} : okI C0 0 0 nn := ⟨fun k hk => absurd hk (Nat.not_lt_zero _), Nat.le_refl _, Nat.le_refl _⟩
theorem rd_pre {T : Row} {z : Nat} {C0 : Row} {k : Nat} (okt : okTp T z) (h : keyOf T (nx T z (p00 C0)) = some k) : wfP T z (nx T z (p00 C0)) ∧ wfP T z (nx T z (nx T z (p00 C0))) ∧ 7 * (z - pS (nx T z (nx T z (p00 C0)))) + rkm 0 < 700 ∧ okI (pC (nx T z (nx T z (p00 C0)))) (pM (nx T z (nx T z (p00 C0)))) (pV (nx T z (nx T z (p00 C0)))) (nnOf k) ∧ pM (nx T z (nx T z (p00 C0))) = 0 := by
  have h96 := okt.1
  obtain ⟨n1, n2⟩ := nx_wf (p := p00 C0) okt (Nat.zero_le _)
  obtain ⟨n3, n4⟩ := nx_wf (p := nx T z (p00 C0)) okt n1.2.1
  exact ⟨n1, n3, by rw [rkm_le (by decide)]; omega, okI_0, rfl⟩
theorem rdA_ok {T : Row} {z : Nat} {C0 : Row} (okt : okTp T z) (h : (rdA T z C0).1 = false) : (rdA T z C0).2.1 < 3 ∧ okc (pC (rdA T z C0).2.2) (pM (rdA T z C0).2.2) (pV (rdA T z C0).2.2) (nnOf (rdA T z C0).2.1) ∧ pM (rdA T z C0).2.2 ≤ 95 ∧ pV (rdA T z C0).2.2 ≤ 95 ∧ 1 ≤ pV (rdA T z C0).2.2 := by
  unfold rdA at *
  cases hk : keyOf T (nx T z (p00 C0)) with
  | none => rw [hk] at h; cases h
  | some k =>
    rw [hk] at h
    dsimp only at h ⊢
    obtain ⟨k3, o1⟩ := keyOf_lt hk
    obtain ⟨p1, p2, p3, p4, p5⟩ := rd_pre okt hk
    have q := prs_ok okt k3 700 0 0 0 (nx T z (nx T z (p00 C0))) (Or.inl (by decide)) p2 p3 p4 (by omega)
    have s1 := p1.2.2.1 (by rw [o1]; decide)
    have s2 := (nx_wf (p := nx T z (p00 C0)) okt p1.2.1).2
    generalize nx T z (nx T z (p00 C0)) = p at *
    generalize prs T z k 700 0 0 0 p = r at *
    obtain ⟨v, r⟩ := r
    cases v with
    | true => rw [if_pos rfl] at h; cases h
    | false =>
      dsimp only at h ⊢
      rw [if_neg (by decide)] at h ⊢
      by_cases e0 : pO r = 0
      · rw [if_pos e0]
        obtain ⟨q1, q2, q3⟩ := q
        obtain ⟨b1, b2, b3, b4, b5⟩ := q3 rfl
        dsimp only at q1 q2 b1 b2 b3 b4 b5
        have c1 := q1.1
        have c2 := q1.2.1
        have h96 := okt.1
        rw [p5, if_pos (by decide)] at b5
        rw [p5] at b2 b3
        have b5 : dp (pC r) (pM r) = 1 := b5
        have d1 := b4.2.1
        have d2 := b4.2.2
        exact ⟨k3, ⟨b4.1, b5⟩, by show pM r ≤ 95; omega, by show pV r ≤ 95; omega, by show 1 ≤ pV r; omega⟩
      · rw [if_neg e0] at h; cases h
def tAdd (N : Row) (t key : Nat) (p : PS) : Row := va_up (va_cpy (pC p) (va_up (va_up (va_up N (156 + 100 * t + 0) (nI key)) (156 + 100 * t + 1) (nI (pV p))) (156 + 100 * t + 2) (nI (pM p))) 0 (156 + 100 * t + 3) (pM p)) 6 (nI (t + 1))
def textA (tn : Nat) (T : Row) (z : Nat) (C0 : Row) : Int32 := if (rdA T z C0).1 = true then -100 - nI (pS (rdA T z C0).2.2) else if tn = 14 then cFULL else nI tn
def textN (N : Row) (tn : Nat) (T : Row) (z : Nat) (C0 : Row) : Row := if (rdA T z C0).1 = false ∧ tn ≠ 14 then tAdd N tn (rdA T z C0).2.1 (rdA T z C0).2.2 else N
end PU16
section M25
variable {g : Geo} {I : IM} {K : Option Value → Geo → IM → Prop}
set_option maxHeartbeats 4000000 in
theorem c_M_spells {T : Row} {z j : Nat} {p : PS} (G : GeoOK g) (hF : g.1.2.2.category = 1) (okt : okTp T z) (hj : j < 14) (hw : wfP T z p) (h1 : I 108 = T) (h3 : I 101 11 = nI (pS p)) (h4 : I 101 12 = nI (pE p)) (h5 : I 101 13 = nI (pO p)) (kt : spl T p j = true → K (some (.int (nI 1))) g I) (kf : spl T p j = false → K (some (.int (nI 0))) g I) : Cl 5 M_M_spells [.ref 101, .ref (1000000 + j)] g I K := by
  show Rl 5 M_M_spells 0 [some (.ref 101), some (.ref (1000000 + j)), none, none] [] g I K
  have h6 := str_l6 j hj
  have w1 := hw.1
  have w2 := hw.2.1
  have w4 := hw.2.2.2.1
  have h96 := okt.1
  unfold spl at kt kf
  generalize hL : (strs.getD j []).length = L at *
  by_cases c : pO p = 1 ∧ pE p - pS p = L
  · rw [decide_eq_true c, Bool.true_and] at kt kf
    obtain ⟨ca, cb⟩ := c
    have loop : ∀ q k, k + q = L → allB (fun i => decide (T (pS p + i) = (strs.getD j []).getD i 0)) k = true → Rl 5 M_M_spells 32 [some (.ref 101), some (.ref (1000000 + j)), some (.int (nI 1)), some (.int (nI k))] [] g I K := by
      intro q
      induction q with
      | zero =>
        intro k hk hall
        have hk : k = L := by omega
        subst hk
        repeat' (first
          | (refine T_iload_n (pc1 := 33) (pc := 32) k_M_spells_32 rfl rfl ?_ <;> try ((first | refine T_aload_n (pc1 := 34) (pc := 33) k_M_spells_33 rfl rfl ?_ | refine T_aload_nN (pc1 := 34) (pc := 33) k_M_spells_33 rfl rfl ?_) <;> try ((refine T_cT (As := []) (d1 := 2) (pc1 := 37) (pc := 34) k_M_spells_34 rfl (by decide) (Nat.le_of_ble_eq_true rfl) rfl o_Js_length l_M_235 (by omega) rfl (c_Js_len (by omega) hL ?_) <;> try dsimp only [psh]) <;> try ((first | (with_reducible refine T_icmp_geN (tgt := 75) (pc1 := 40) (pc := 37) k_M_spells_37 (by decide) (by decide) (by omega) (by omega) (fun hc => ?_) (fun hc => ?_) <;> first | (exfalso; omega) | skip) | refine T_icmp_ge_t (tgt := 75) (pc := 37) k_M_spells_37 rfl (by decide) ?_ | refine T_icmp_ge_f (tgt := 75) (pc1 := 40) (pc := 37) k_M_spells_37 rfl rfl (by decide) ?_ | refine T_icmp_ge (tgt := 75) (pc1 := 40) (pc := 37) k_M_spells_37 rfl rfl (fun hc => ?_) (fun hc => ?_))))))
          | (refine T_iload_n (pc1 := 41) (pc := 40) k_M_spells_40 rfl rfl ?_ <;> try ((first | (with_reducible refine T_if_eqN (tgt := 75) (pc1 := 44) (pc := 41) k_M_spells_41 (by decide) (by decide) (by omega) (fun hc => ?_) (fun hc => ?_) <;> first | (exfalso; omega) | skip) | refine T_if_eq_t (tgt := 75) (pc := 41) k_M_spells_41 rfl (by decide) ?_ | refine T_if_eq_f (tgt := 75) (pc1 := 44) (pc := 41) k_M_spells_41 rfl rfl (by decide) ?_ | refine T_if_eq (tgt := 75) (pc1 := 44) (pc := 41) k_M_spells_41 rfl rfl (fun hc => ?_) (fun hc => ?_))))
          | ((first | refine T_aload_n (pc1 := 45) (pc := 44) k_M_spells_44 rfl rfl ?_ | refine T_aload_nN (pc1 := 45) (pc := 44) k_M_spells_44 rfl rfl ?_) <;> try (refine T_getR (pc1 := 48) (pc := 45) k_M_spells_45 rfl f_M_28 rfl (by first | exact ga G (by decide) rfl | assumption) (by first | exact gr G (by decide) rfl | assumption) ?_ <;> try ((first | refine T_aload_n (pc1 := 49) (pc := 48) k_M_spells_48 rfl rfl ?_ | refine T_aload_nN (pc1 := 49) (pc := 48) k_M_spells_48 rfl rfl ?_) <;> try (refine T_getV (pc1 := 52) (pc := 49) k_M_spells_49 rfl f_M_213 rfl (by first | exact ga G (by decide) rfl | assumption) (by first | assumption | (simp (disch := omega) only [pI_eq, pI_row, pI_col, va_up_self, va_up_ne, ne_eq, not_false_eq_true] <;> rfl) | rfl) ?_ <;> try (refine T_iload_n (pc1 := 53) (pc := 52) k_M_spells_52 rfl rfl ?_ <;> try ((first | with_reducible refine T_iaddN (pc1 := 54) (pc := 53) k_M_spells_53 (by decide) ?_ | refine T_iadd (pc1 := 54) (pc := 53) k_M_spells_53 rfl ?_) <;> try ((first | refine T_ialdN (pc1 := 55) (pc := 54) k_M_spells_54 rfl (by first | exact ga G (by decide) rfl | assumption) (by omega) (by omega) (by first | assumption | (simp (disch := omega) only [pI_eq, pI_row, pI_col, va_up_self, va_up_ne, ne_eq, not_false_eq_true] <;> rfl) | rfl) ?_ | refine T_iald (pc1 := 55) (pc := 54) k_M_spells_54 rfl (by first | exact ga G (by decide) rfl | assumption) (by assumption) ?_) <;> try ((first | refine T_aload_n (pc1 := 56) (pc := 55) k_M_spells_55 rfl rfl ?_ | refine T_aload_nN (pc1 := 56) (pc := 55) k_M_spells_55 rfl rfl ?_) <;> try (refine T_iload_n (pc1 := 57) (pc := 56) k_M_spells_56 rfl rfl ?_ <;> try ((refine T_cT (As := [_]) (d1 := 4) (pc1 := 60) (pc := 57) k_M_spells_57 rfl (by decide) (Nat.le_of_ble_eq_true rfl) rfl o_Js_charAt l_M_239 (by omega) rfl (c_Js_charAt hF (by omega) (by omega) ?_) <;> try dsimp only [psh]) <;> try ((first | (with_reducible refine T_icmp_neN (tgt := 67) (pc1 := 63) (pc := 60) k_M_spells_60 (by decide) (by decide) (by omega) (by omega) (fun hc => ?_) (fun hc => ?_) <;> first | (exfalso; omega) | skip) | refine T_icmp_ne_t (tgt := 67) (pc := 60) k_M_spells_60 rfl (by decide) ?_ | refine T_icmp_ne_f (tgt := 67) (pc1 := 63) (pc := 60) k_M_spells_60 rfl rfl (by decide) ?_ | refine T_icmp_ne (tgt := 67) (pc1 := 63) (pc := 60) k_M_spells_60 rfl rfl (fun hc => ?_) (fun hc => ?_)))))))))))))
          | (refine T_iconst (v := (nI 1)) (pc1 := 64) (pc := 63) k_M_spells_63 rfl (by decide) ?_ <;> try (refine T_goto (tgt := 68) (pc := 64) k_M_spells_64 rfl ?_))
          | (refine T_iconst (v := (nI 0)) (pc1 := 68) (pc := 67) k_M_spells_67 rfl (by decide) ?_)
          | (refine T_istore_n (pc1 := 69) (pc := 68) k_M_spells_68 rfl (Nat.le_of_ble_eq_true rfl) ?_ <;> try ((first | refine T_iincN (b := 1) (pc1 := 72) (pc := 69) k_M_spells_69 rfl rfl (by decide) ?_ | refine T_iinc (v := (nI 1)) (pc1 := 72) (pc := 69) k_M_spells_69 rfl rfl (by decide) ?_) <;> try (refine T_goto (tgt := 32) (pc := 72) k_M_spells_72 rfl ?_)))
          | (refine T_iload_n (pc1 := 76) (pc := 75) k_M_spells_75 rfl rfl ?_ <;> try (refine T_retI (pc := 76) k_M_spells_76 rfl (by first | rfl | decide | assumption) ?_))
          | refine T_aload_n (pc1 := 34) (pc := 33) k_M_spells_33 rfl rfl ?_
          | refine T_aload_nN (pc1 := 34) (pc := 33) k_M_spells_33 rfl rfl ?_
          | (refine T_cT (As := []) (d1 := 2) (pc1 := 37) (pc := 34) k_M_spells_34 rfl (by decide) (Nat.le_of_ble_eq_true rfl) rfl o_Js_length l_M_235 (by omega) rfl (c_Js_len (by omega) hL ?_) <;> try dsimp only [psh])
          | (with_reducible refine T_icmp_geN (tgt := 75) (pc1 := 40) (pc := 37) k_M_spells_37 (by decide) (by decide) (by omega) (by omega) (fun hc => ?_) (fun hc => ?_) <;> first | (exfalso; omega) | skip)
          | refine T_icmp_ge_t (tgt := 75) (pc := 37) k_M_spells_37 rfl (by decide) ?_
          | refine T_icmp_ge_f (tgt := 75) (pc1 := 40) (pc := 37) k_M_spells_37 rfl rfl (by decide) ?_
          | refine T_icmp_ge (tgt := 75) (pc1 := 40) (pc := 37) k_M_spells_37 rfl rfl (fun hc => ?_) (fun hc => ?_)
          | (with_reducible refine T_if_eqN (tgt := 75) (pc1 := 44) (pc := 41) k_M_spells_41 (by decide) (by decide) (by omega) (fun hc => ?_) (fun hc => ?_) <;> first | (exfalso; omega) | skip)
          | refine T_if_eq_t (tgt := 75) (pc := 41) k_M_spells_41 rfl (by decide) ?_
          | refine T_if_eq_f (tgt := 75) (pc1 := 44) (pc := 41) k_M_spells_41 rfl rfl (by decide) ?_
          | refine T_if_eq (tgt := 75) (pc1 := 44) (pc := 41) k_M_spells_41 rfl rfl (fun hc => ?_) (fun hc => ?_)
          | refine T_getR (pc1 := 48) (pc := 45) k_M_spells_45 rfl f_M_28 rfl (by first | exact ga G (by decide) rfl | assumption) (by first | exact gr G (by decide) rfl | assumption) ?_
          | refine T_aload_n (pc1 := 49) (pc := 48) k_M_spells_48 rfl rfl ?_
          | refine T_aload_nN (pc1 := 49) (pc := 48) k_M_spells_48 rfl rfl ?_
          | refine T_getV (pc1 := 52) (pc := 49) k_M_spells_49 rfl f_M_213 rfl (by first | exact ga G (by decide) rfl | assumption) (by first | assumption | (simp (disch := omega) only [pI_eq, pI_row, pI_col, va_up_self, va_up_ne, ne_eq, not_false_eq_true] <;> rfl) | rfl) ?_
          | refine T_iload_n (pc1 := 53) (pc := 52) k_M_spells_52 rfl rfl ?_
          | with_reducible refine T_iaddN (pc1 := 54) (pc := 53) k_M_spells_53 (by decide) ?_
          | refine T_iadd (pc1 := 54) (pc := 53) k_M_spells_53 rfl ?_
          | refine T_ialdN (pc1 := 55) (pc := 54) k_M_spells_54 rfl (by first | exact ga G (by decide) rfl | assumption) (by omega) (by omega) (by first | assumption | (simp (disch := omega) only [pI_eq, pI_row, pI_col, va_up_self, va_up_ne, ne_eq, not_false_eq_true] <;> rfl) | rfl) ?_
          | refine T_iald (pc1 := 55) (pc := 54) k_M_spells_54 rfl (by first | exact ga G (by decide) rfl | assumption) (by assumption) ?_
          | refine T_aload_n (pc1 := 56) (pc := 55) k_M_spells_55 rfl rfl ?_
          | refine T_aload_nN (pc1 := 56) (pc := 55) k_M_spells_55 rfl rfl ?_
          | refine T_iload_n (pc1 := 57) (pc := 56) k_M_spells_56 rfl rfl ?_
          | (refine T_cT (As := [_]) (d1 := 4) (pc1 := 60) (pc := 57) k_M_spells_57 rfl (by decide) (Nat.le_of_ble_eq_true rfl) rfl o_Js_charAt l_M_239 (by omega) rfl (c_Js_charAt hF (by omega) (by omega) ?_) <;> try dsimp only [psh])
          | (with_reducible refine T_icmp_neN (tgt := 67) (pc1 := 63) (pc := 60) k_M_spells_60 (by decide) (by decide) (by omega) (by omega) (fun hc => ?_) (fun hc => ?_) <;> first | (exfalso; omega) | skip)
          | refine T_icmp_ne_t (tgt := 67) (pc := 60) k_M_spells_60 rfl (by decide) ?_
          | refine T_icmp_ne_f (tgt := 67) (pc1 := 63) (pc := 60) k_M_spells_60 rfl rfl (by decide) ?_
          | refine T_icmp_ne (tgt := 67) (pc1 := 63) (pc := 60) k_M_spells_60 rfl rfl (fun hc => ?_) (fun hc => ?_)
          | refine T_goto (tgt := 68) (pc := 64) k_M_spells_64 rfl ?_
          | refine T_iincN (b := 1) (pc1 := 72) (pc := 69) k_M_spells_69 rfl rfl (by decide) ?_
          | refine T_iinc (v := (nI 1)) (pc1 := 72) (pc := 69) k_M_spells_69 rfl rfl (by decide) ?_
          | refine T_goto (tgt := 32) (pc := 72) k_M_spells_72 rfl ?_
          | refine T_retI (pc := 76) k_M_spells_76 rfl (by first | rfl | decide | assumption) ?_)
        exact kt hall
      | succ q ih =>
        intro k hk hall
        have ih := ih (k + 1) (by omega)
        have e : I 108 (pS p + k) = T (pS p + k) := by rw [h1]
        rw [allB, hall, Bool.true_and] at ih
        have no : ¬ T (pS p + k) = (strs.getD j []).getD k 0 → K (some (.int (nI 0))) g I := fun hne => kf (allB_f (k := k + 1) (by rw [allB, decide_eq_false hne, Bool.and_false]) L (by omega))
        refine T_iload_n (pc1 := 33) (pc := 32) k_M_spells_32 rfl rfl ?_
        repeat' (first
          | ((first | refine T_aload_n (pc1 := 34) (pc := 33) k_M_spells_33 rfl rfl ?_ | refine T_aload_nN (pc1 := 34) (pc := 33) k_M_spells_33 rfl rfl ?_) <;> try ((refine T_cT (As := []) (d1 := 2) (pc1 := 37) (pc := 34) k_M_spells_34 rfl (by decide) (Nat.le_of_ble_eq_true rfl) rfl o_Js_length l_M_235 (by omega) rfl (c_Js_len (by omega) hL ?_) <;> try dsimp only [psh]) <;> try ((first | (with_reducible refine T_icmp_geN (tgt := 75) (pc1 := 40) (pc := 37) k_M_spells_37 (by decide) (by decide) (by omega) (by omega) (fun hc => ?_) (fun hc => ?_) <;> first | (exfalso; omega) | skip) | refine T_icmp_ge_t (tgt := 75) (pc := 37) k_M_spells_37 rfl (by decide) ?_ | refine T_icmp_ge_f (tgt := 75) (pc1 := 40) (pc := 37) k_M_spells_37 rfl rfl (by decide) ?_ | refine T_icmp_ge (tgt := 75) (pc1 := 40) (pc := 37) k_M_spells_37 rfl rfl (fun hc => ?_) (fun hc => ?_)))))
          | (refine T_iload_n (pc1 := 41) (pc := 40) k_M_spells_40 rfl rfl ?_ <;> try ((first | (with_reducible refine T_if_eqN (tgt := 75) (pc1 := 44) (pc := 41) k_M_spells_41 (by decide) (by decide) (by omega) (fun hc => ?_) (fun hc => ?_) <;> first | (exfalso; omega) | skip) | refine T_if_eq_t (tgt := 75) (pc := 41) k_M_spells_41 rfl (by decide) ?_ | refine T_if_eq_f (tgt := 75) (pc1 := 44) (pc := 41) k_M_spells_41 rfl rfl (by decide) ?_ | refine T_if_eq (tgt := 75) (pc1 := 44) (pc := 41) k_M_spells_41 rfl rfl (fun hc => ?_) (fun hc => ?_))))
          | ((first | refine T_aload_n (pc1 := 45) (pc := 44) k_M_spells_44 rfl rfl ?_ | refine T_aload_nN (pc1 := 45) (pc := 44) k_M_spells_44 rfl rfl ?_) <;> try (refine T_getR (pc1 := 48) (pc := 45) k_M_spells_45 rfl f_M_28 rfl (by first | exact ga G (by decide) rfl | assumption) (by first | exact gr G (by decide) rfl | assumption) ?_ <;> try ((first | refine T_aload_n (pc1 := 49) (pc := 48) k_M_spells_48 rfl rfl ?_ | refine T_aload_nN (pc1 := 49) (pc := 48) k_M_spells_48 rfl rfl ?_) <;> try (refine T_getV (pc1 := 52) (pc := 49) k_M_spells_49 rfl f_M_213 rfl (by first | exact ga G (by decide) rfl | assumption) (by first | assumption | (simp (disch := omega) only [pI_eq, pI_row, pI_col, va_up_self, va_up_ne, ne_eq, not_false_eq_true] <;> rfl) | rfl) ?_ <;> try (refine T_iload_n (pc1 := 53) (pc := 52) k_M_spells_52 rfl rfl ?_ <;> try ((first | with_reducible refine T_iaddN (pc1 := 54) (pc := 53) k_M_spells_53 (by decide) ?_ | refine T_iadd (pc1 := 54) (pc := 53) k_M_spells_53 rfl ?_) <;> try ((first | refine T_ialdN (pc1 := 55) (pc := 54) k_M_spells_54 rfl (by first | exact ga G (by decide) rfl | assumption) (by omega) (by omega) (by first | assumption | (simp (disch := omega) only [pI_eq, pI_row, pI_col, va_up_self, va_up_ne, ne_eq, not_false_eq_true] <;> rfl) | rfl) ?_ | refine T_iald (pc1 := 55) (pc := 54) k_M_spells_54 rfl (by first | exact ga G (by decide) rfl | assumption) (by assumption) ?_) <;> try ((first | refine T_aload_n (pc1 := 56) (pc := 55) k_M_spells_55 rfl rfl ?_ | refine T_aload_nN (pc1 := 56) (pc := 55) k_M_spells_55 rfl rfl ?_) <;> try (refine T_iload_n (pc1 := 57) (pc := 56) k_M_spells_56 rfl rfl ?_ <;> try ((refine T_cT (As := [_]) (d1 := 4) (pc1 := 60) (pc := 57) k_M_spells_57 rfl (by decide) (Nat.le_of_ble_eq_true rfl) rfl o_Js_charAt l_M_239 (by omega) rfl (c_Js_charAt hF (by omega) (by omega) ?_) <;> try dsimp only [psh]) <;> try ((first | (with_reducible refine T_icmp_neN (tgt := 67) (pc1 := 63) (pc := 60) k_M_spells_60 (by decide) (by decide) (by omega) (by omega) (fun hc => ?_) (fun hc => ?_) <;> first | (exfalso; omega) | skip) | refine T_icmp_ne_t (tgt := 67) (pc := 60) k_M_spells_60 rfl (by decide) ?_ | refine T_icmp_ne_f (tgt := 67) (pc1 := 63) (pc := 60) k_M_spells_60 rfl rfl (by decide) ?_ | refine T_icmp_ne (tgt := 67) (pc1 := 63) (pc := 60) k_M_spells_60 rfl rfl (fun hc => ?_) (fun hc => ?_)))))))))))))
          | (refine T_iconst (v := (nI 1)) (pc1 := 64) (pc := 63) k_M_spells_63 rfl (by decide) ?_ <;> try (refine T_goto (tgt := 68) (pc := 64) k_M_spells_64 rfl ?_))
          | (refine T_iconst (v := (nI 0)) (pc1 := 68) (pc := 67) k_M_spells_67 rfl (by decide) ?_)
          | (refine T_istore_n (pc1 := 69) (pc := 68) k_M_spells_68 rfl (Nat.le_of_ble_eq_true rfl) ?_ <;> try ((first | refine T_iincN (b := 1) (pc1 := 72) (pc := 69) k_M_spells_69 rfl rfl (by decide) ?_ | refine T_iinc (v := (nI 1)) (pc1 := 72) (pc := 69) k_M_spells_69 rfl rfl (by decide) ?_) <;> try (refine T_goto (tgt := 32) (pc := 72) k_M_spells_72 rfl ?_)))
          | (refine T_cT (As := []) (d1 := 2) (pc1 := 37) (pc := 34) k_M_spells_34 rfl (by decide) (Nat.le_of_ble_eq_true rfl) rfl o_Js_length l_M_235 (by omega) rfl (c_Js_len (by omega) hL ?_) <;> try dsimp only [psh])
          | (with_reducible refine T_icmp_geN (tgt := 75) (pc1 := 40) (pc := 37) k_M_spells_37 (by decide) (by decide) (by omega) (by omega) (fun hc => ?_) (fun hc => ?_) <;> first | (exfalso; omega) | skip)
          | refine T_icmp_ge_t (tgt := 75) (pc := 37) k_M_spells_37 rfl (by decide) ?_
          | refine T_icmp_ge_f (tgt := 75) (pc1 := 40) (pc := 37) k_M_spells_37 rfl rfl (by decide) ?_
          | refine T_icmp_ge (tgt := 75) (pc1 := 40) (pc := 37) k_M_spells_37 rfl rfl (fun hc => ?_) (fun hc => ?_)
          | (with_reducible refine T_if_eqN (tgt := 75) (pc1 := 44) (pc := 41) k_M_spells_41 (by decide) (by decide) (by omega) (fun hc => ?_) (fun hc => ?_) <;> first | (exfalso; omega) | skip)
          | refine T_if_eq_t (tgt := 75) (pc := 41) k_M_spells_41 rfl (by decide) ?_
          | refine T_if_eq_f (tgt := 75) (pc1 := 44) (pc := 41) k_M_spells_41 rfl rfl (by decide) ?_
          | refine T_if_eq (tgt := 75) (pc1 := 44) (pc := 41) k_M_spells_41 rfl rfl (fun hc => ?_) (fun hc => ?_)
          | refine T_getR (pc1 := 48) (pc := 45) k_M_spells_45 rfl f_M_28 rfl (by first | exact ga G (by decide) rfl | assumption) (by first | exact gr G (by decide) rfl | assumption) ?_
          | refine T_aload_n (pc1 := 49) (pc := 48) k_M_spells_48 rfl rfl ?_
          | refine T_aload_nN (pc1 := 49) (pc := 48) k_M_spells_48 rfl rfl ?_
          | refine T_getV (pc1 := 52) (pc := 49) k_M_spells_49 rfl f_M_213 rfl (by first | exact ga G (by decide) rfl | assumption) (by first | assumption | (simp (disch := omega) only [pI_eq, pI_row, pI_col, va_up_self, va_up_ne, ne_eq, not_false_eq_true] <;> rfl) | rfl) ?_
          | refine T_iload_n (pc1 := 53) (pc := 52) k_M_spells_52 rfl rfl ?_
          | with_reducible refine T_iaddN (pc1 := 54) (pc := 53) k_M_spells_53 (by decide) ?_
          | refine T_iadd (pc1 := 54) (pc := 53) k_M_spells_53 rfl ?_
          | refine T_ialdN (pc1 := 55) (pc := 54) k_M_spells_54 rfl (by first | exact ga G (by decide) rfl | assumption) (by omega) (by omega) (by first | assumption | (simp (disch := omega) only [pI_eq, pI_row, pI_col, va_up_self, va_up_ne, ne_eq, not_false_eq_true] <;> rfl) | rfl) ?_
          | refine T_iald (pc1 := 55) (pc := 54) k_M_spells_54 rfl (by first | exact ga G (by decide) rfl | assumption) (by assumption) ?_
          | refine T_aload_n (pc1 := 56) (pc := 55) k_M_spells_55 rfl rfl ?_
          | refine T_aload_nN (pc1 := 56) (pc := 55) k_M_spells_55 rfl rfl ?_
          | refine T_iload_n (pc1 := 57) (pc := 56) k_M_spells_56 rfl rfl ?_
          | (refine T_cT (As := [_]) (d1 := 4) (pc1 := 60) (pc := 57) k_M_spells_57 rfl (by decide) (Nat.le_of_ble_eq_true rfl) rfl o_Js_charAt l_M_239 (by omega) rfl (c_Js_charAt hF (by omega) (by omega) ?_) <;> try dsimp only [psh])
          | (with_reducible refine T_icmp_neN (tgt := 67) (pc1 := 63) (pc := 60) k_M_spells_60 (by decide) (by decide) (by omega) (by omega) (fun hc => ?_) (fun hc => ?_) <;> first | (exfalso; omega) | skip)
          | refine T_icmp_ne_t (tgt := 67) (pc := 60) k_M_spells_60 rfl (by decide) ?_
          | refine T_icmp_ne_f (tgt := 67) (pc1 := 63) (pc := 60) k_M_spells_60 rfl rfl (by decide) ?_
          | refine T_icmp_ne (tgt := 67) (pc1 := 63) (pc := 60) k_M_spells_60 rfl rfl (fun hc => ?_) (fun hc => ?_)
          | refine T_goto (tgt := 68) (pc := 64) k_M_spells_64 rfl ?_
          | refine T_iincN (b := 1) (pc1 := 72) (pc := 69) k_M_spells_69 rfl rfl (by decide) ?_
          | refine T_iinc (v := (nI 1)) (pc1 := 72) (pc := 69) k_M_spells_69 rfl rfl (by decide) ?_
          | refine T_goto (tgt := 32) (pc := 72) k_M_spells_72 rfl ?_)
        · have no := no (by assumption)
          refine T_iload_n (pc1 := 33) (pc := 32) k_M_spells_32 rfl rfl ?_
          repeat' (first
            | ((first | refine T_aload_n (pc1 := 34) (pc := 33) k_M_spells_33 rfl rfl ?_ | refine T_aload_nN (pc1 := 34) (pc := 33) k_M_spells_33 rfl rfl ?_) <;> try ((refine T_cT (As := []) (d1 := 2) (pc1 := 37) (pc := 34) k_M_spells_34 rfl (by decide) (Nat.le_of_ble_eq_true rfl) rfl o_Js_length l_M_235 (by omega) rfl (c_Js_len (by omega) hL ?_) <;> try dsimp only [psh]) <;> try ((first | (with_reducible refine T_icmp_geN (tgt := 75) (pc1 := 40) (pc := 37) k_M_spells_37 (by decide) (by decide) (by omega) (by omega) (fun hc => ?_) (fun hc => ?_) <;> first | (exfalso; omega) | skip) | refine T_icmp_ge_t (tgt := 75) (pc := 37) k_M_spells_37 rfl (by decide) ?_ | refine T_icmp_ge_f (tgt := 75) (pc1 := 40) (pc := 37) k_M_spells_37 rfl rfl (by decide) ?_ | refine T_icmp_ge (tgt := 75) (pc1 := 40) (pc := 37) k_M_spells_37 rfl rfl (fun hc => ?_) (fun hc => ?_)))))
            | (refine T_iload_n (pc1 := 41) (pc := 40) k_M_spells_40 rfl rfl ?_ <;> try ((first | (with_reducible refine T_if_eqN (tgt := 75) (pc1 := 44) (pc := 41) k_M_spells_41 (by decide) (by decide) (by omega) (fun hc => ?_) (fun hc => ?_) <;> first | (exfalso; omega) | skip) | refine T_if_eq_t (tgt := 75) (pc := 41) k_M_spells_41 rfl (by decide) ?_ | refine T_if_eq_f (tgt := 75) (pc1 := 44) (pc := 41) k_M_spells_41 rfl rfl (by decide) ?_ | refine T_if_eq (tgt := 75) (pc1 := 44) (pc := 41) k_M_spells_41 rfl rfl (fun hc => ?_) (fun hc => ?_))))
            | ((first | refine T_aload_n (pc1 := 45) (pc := 44) k_M_spells_44 rfl rfl ?_ | refine T_aload_nN (pc1 := 45) (pc := 44) k_M_spells_44 rfl rfl ?_) <;> try (refine T_getR (pc1 := 48) (pc := 45) k_M_spells_45 rfl f_M_28 rfl (by first | exact ga G (by decide) rfl | assumption) (by first | exact gr G (by decide) rfl | assumption) ?_ <;> try ((first | refine T_aload_n (pc1 := 49) (pc := 48) k_M_spells_48 rfl rfl ?_ | refine T_aload_nN (pc1 := 49) (pc := 48) k_M_spells_48 rfl rfl ?_) <;> try (refine T_getV (pc1 := 52) (pc := 49) k_M_spells_49 rfl f_M_213 rfl (by first | exact ga G (by decide) rfl | assumption) (by first | assumption | (simp (disch := omega) only [pI_eq, pI_row, pI_col, va_up_self, va_up_ne, ne_eq, not_false_eq_true] <;> rfl) | rfl) ?_ <;> try (refine T_iload_n (pc1 := 53) (pc := 52) k_M_spells_52 rfl rfl ?_ <;> try ((first | with_reducible refine T_iaddN (pc1 := 54) (pc := 53) k_M_spells_53 (by decide) ?_ | refine T_iadd (pc1 := 54) (pc := 53) k_M_spells_53 rfl ?_) <;> try ((first | refine T_ialdN (pc1 := 55) (pc := 54) k_M_spells_54 rfl (by first | exact ga G (by decide) rfl | assumption) (by omega) (by omega) (by first | assumption | (simp (disch := omega) only [pI_eq, pI_row, pI_col, va_up_self, va_up_ne, ne_eq, not_false_eq_true] <;> rfl) | rfl) ?_ | refine T_iald (pc1 := 55) (pc := 54) k_M_spells_54 rfl (by first | exact ga G (by decide) rfl | assumption) (by assumption) ?_) <;> try ((first | refine T_aload_n (pc1 := 56) (pc := 55) k_M_spells_55 rfl rfl ?_ | refine T_aload_nN (pc1 := 56) (pc := 55) k_M_spells_55 rfl rfl ?_) <;> try (refine T_iload_n (pc1 := 57) (pc := 56) k_M_spells_56 rfl rfl ?_ <;> try ((refine T_cT (As := [_]) (d1 := 4) (pc1 := 60) (pc := 57) k_M_spells_57 rfl (by decide) (Nat.le_of_ble_eq_true rfl) rfl o_Js_charAt l_M_239 (by omega) rfl (c_Js_charAt hF (by omega) (by omega) ?_) <;> try dsimp only [psh]) <;> try ((first | (with_reducible refine T_icmp_neN (tgt := 67) (pc1 := 63) (pc := 60) k_M_spells_60 (by decide) (by decide) (by omega) (by omega) (fun hc => ?_) (fun hc => ?_) <;> first | (exfalso; omega) | skip) | refine T_icmp_ne_t (tgt := 67) (pc := 60) k_M_spells_60 rfl (by decide) ?_ | refine T_icmp_ne_f (tgt := 67) (pc1 := 63) (pc := 60) k_M_spells_60 rfl rfl (by decide) ?_ | refine T_icmp_ne (tgt := 67) (pc1 := 63) (pc := 60) k_M_spells_60 rfl rfl (fun hc => ?_) (fun hc => ?_)))))))))))))
            | (refine T_iconst (v := (nI 1)) (pc1 := 64) (pc := 63) k_M_spells_63 rfl (by decide) ?_ <;> try (refine T_goto (tgt := 68) (pc := 64) k_M_spells_64 rfl ?_))
            | (refine T_iconst (v := (nI 0)) (pc1 := 68) (pc := 67) k_M_spells_67 rfl (by decide) ?_)
            | (refine T_istore_n (pc1 := 69) (pc := 68) k_M_spells_68 rfl (Nat.le_of_ble_eq_true rfl) ?_ <;> try ((first | refine T_iincN (b := 1) (pc1 := 72) (pc := 69) k_M_spells_69 rfl rfl (by decide) ?_ | refine T_iinc (v := (nI 1)) (pc1 := 72) (pc := 69) k_M_spells_69 rfl rfl (by decide) ?_) <;> try (refine T_goto (tgt := 32) (pc := 72) k_M_spells_72 rfl ?_)))
            | (refine T_iload_n (pc1 := 76) (pc := 75) k_M_spells_75 rfl rfl ?_ <;> try (refine T_retI (pc := 76) k_M_spells_76 rfl (by first | rfl | decide | assumption) ?_))
            | (refine T_cT (As := []) (d1 := 2) (pc1 := 37) (pc := 34) k_M_spells_34 rfl (by decide) (Nat.le_of_ble_eq_true rfl) rfl o_Js_length l_M_235 (by omega) rfl (c_Js_len (by omega) hL ?_) <;> try dsimp only [psh])
            | (with_reducible refine T_icmp_geN (tgt := 75) (pc1 := 40) (pc := 37) k_M_spells_37 (by decide) (by decide) (by omega) (by omega) (fun hc => ?_) (fun hc => ?_) <;> first | (exfalso; omega) | skip)
            | refine T_icmp_ge_t (tgt := 75) (pc := 37) k_M_spells_37 rfl (by decide) ?_
            | refine T_icmp_ge_f (tgt := 75) (pc1 := 40) (pc := 37) k_M_spells_37 rfl rfl (by decide) ?_
            | refine T_icmp_ge (tgt := 75) (pc1 := 40) (pc := 37) k_M_spells_37 rfl rfl (fun hc => ?_) (fun hc => ?_)
            | (with_reducible refine T_if_eqN (tgt := 75) (pc1 := 44) (pc := 41) k_M_spells_41 (by decide) (by decide) (by omega) (fun hc => ?_) (fun hc => ?_) <;> first | (exfalso; omega) | skip)
            | refine T_if_eq_t (tgt := 75) (pc := 41) k_M_spells_41 rfl (by decide) ?_
            | refine T_if_eq_f (tgt := 75) (pc1 := 44) (pc := 41) k_M_spells_41 rfl rfl (by decide) ?_
            | refine T_if_eq (tgt := 75) (pc1 := 44) (pc := 41) k_M_spells_41 rfl rfl (fun hc => ?_) (fun hc => ?_)
            | refine T_getR (pc1 := 48) (pc := 45) k_M_spells_45 rfl f_M_28 rfl (by first | exact ga G (by decide) rfl | assumption) (by first | exact gr G (by decide) rfl | assumption) ?_
            | refine T_aload_n (pc1 := 49) (pc := 48) k_M_spells_48 rfl rfl ?_
            | refine T_aload_nN (pc1 := 49) (pc := 48) k_M_spells_48 rfl rfl ?_
            | refine T_getV (pc1 := 52) (pc := 49) k_M_spells_49 rfl f_M_213 rfl (by first | exact ga G (by decide) rfl | assumption) (by first | assumption | (simp (disch := omega) only [pI_eq, pI_row, pI_col, va_up_self, va_up_ne, ne_eq, not_false_eq_true] <;> rfl) | rfl) ?_
            | refine T_iload_n (pc1 := 53) (pc := 52) k_M_spells_52 rfl rfl ?_
            | with_reducible refine T_iaddN (pc1 := 54) (pc := 53) k_M_spells_53 (by decide) ?_
            | refine T_iadd (pc1 := 54) (pc := 53) k_M_spells_53 rfl ?_
            | refine T_ialdN (pc1 := 55) (pc := 54) k_M_spells_54 rfl (by first | exact ga G (by decide) rfl | assumption) (by omega) (by omega) (by first | assumption | (simp (disch := omega) only [pI_eq, pI_row, pI_col, va_up_self, va_up_ne, ne_eq, not_false_eq_true] <;> rfl) | rfl) ?_
            | refine T_iald (pc1 := 55) (pc := 54) k_M_spells_54 rfl (by first | exact ga G (by decide) rfl | assumption) (by assumption) ?_
            | refine T_aload_n (pc1 := 56) (pc := 55) k_M_spells_55 rfl rfl ?_
            | refine T_aload_nN (pc1 := 56) (pc := 55) k_M_spells_55 rfl rfl ?_
            | refine T_iload_n (pc1 := 57) (pc := 56) k_M_spells_56 rfl rfl ?_
            | (refine T_cT (As := [_]) (d1 := 4) (pc1 := 60) (pc := 57) k_M_spells_57 rfl (by decide) (Nat.le_of_ble_eq_true rfl) rfl o_Js_charAt l_M_239 (by omega) rfl (c_Js_charAt hF (by omega) (by omega) ?_) <;> try dsimp only [psh])
            | (with_reducible refine T_icmp_neN (tgt := 67) (pc1 := 63) (pc := 60) k_M_spells_60 (by decide) (by decide) (by omega) (by omega) (fun hc => ?_) (fun hc => ?_) <;> first | (exfalso; omega) | skip)
            | refine T_icmp_ne_t (tgt := 67) (pc := 60) k_M_spells_60 rfl (by decide) ?_
            | refine T_icmp_ne_f (tgt := 67) (pc1 := 63) (pc := 60) k_M_spells_60 rfl rfl (by decide) ?_
            | refine T_icmp_ne (tgt := 67) (pc1 := 63) (pc := 60) k_M_spells_60 rfl rfl (fun hc => ?_) (fun hc => ?_)
            | refine T_goto (tgt := 68) (pc := 64) k_M_spells_64 rfl ?_
            | refine T_iincN (b := 1) (pc1 := 72) (pc := 69) k_M_spells_69 rfl rfl (by decide) ?_
            | refine T_iinc (v := (nI 1)) (pc1 := 72) (pc := 69) k_M_spells_69 rfl rfl (by decide) ?_
            | refine T_goto (tgt := 32) (pc := 72) k_M_spells_72 rfl ?_
            | refine T_retI (pc := 76) k_M_spells_76 rfl (by first | rfl | decide | assumption) ?_)
          all_goals exact no
        · exact ih (decide_eq_true (Decidable.not_not.mp (by assumption)))
    repeat' (first
      | ((first | refine T_aload_n (pc1 := 1) (pc := 0) k_M_spells_0 rfl rfl ?_ | refine T_aload_nN (pc1 := 1) (pc := 0) k_M_spells_0 rfl rfl ?_) <;> try (refine T_getV (pc1 := 4) (pc := 1) k_M_spells_1 rfl f_M_207 rfl (by first | exact ga G (by decide) rfl | assumption) (by first | assumption | (simp (disch := omega) only [pI_eq, pI_row, pI_col, va_up_self, va_up_ne, ne_eq, not_false_eq_true] <;> rfl) | rfl) ?_ <;> try (refine T_iconst (v := (nI 1)) (pc1 := 5) (pc := 4) k_M_spells_4 rfl (by decide) ?_ <;> try ((first | (with_reducible refine T_icmp_neN (tgt := 28) (pc1 := 8) (pc := 5) k_M_spells_5 (by decide) (by decide) (by omega) (by omega) (fun hc => ?_) (fun hc => ?_) <;> first | (exfalso; omega) | skip) | refine T_icmp_ne_t (tgt := 28) (pc := 5) k_M_spells_5 rfl (by decide) ?_ | refine T_icmp_ne_f (tgt := 28) (pc1 := 8) (pc := 5) k_M_spells_5 rfl rfl (by decide) ?_ | refine T_icmp_ne (tgt := 28) (pc1 := 8) (pc := 5) k_M_spells_5 rfl rfl (fun hc => ?_) (fun hc => ?_))))))
      | ((first | refine T_aload_n (pc1 := 9) (pc := 8) k_M_spells_8 rfl rfl ?_ | refine T_aload_nN (pc1 := 9) (pc := 8) k_M_spells_8 rfl rfl ?_) <;> try (refine T_getV (pc1 := 12) (pc := 9) k_M_spells_9 rfl f_M_210 rfl (by first | exact ga G (by decide) rfl | assumption) (by first | assumption | (simp (disch := omega) only [pI_eq, pI_row, pI_col, va_up_self, va_up_ne, ne_eq, not_false_eq_true] <;> rfl) | rfl) ?_ <;> try ((first | refine T_aload_n (pc1 := 13) (pc := 12) k_M_spells_12 rfl rfl ?_ | refine T_aload_nN (pc1 := 13) (pc := 12) k_M_spells_12 rfl rfl ?_) <;> try (refine T_getV (pc1 := 16) (pc := 13) k_M_spells_13 rfl f_M_213 rfl (by first | exact ga G (by decide) rfl | assumption) (by first | assumption | (simp (disch := omega) only [pI_eq, pI_row, pI_col, va_up_self, va_up_ne, ne_eq, not_false_eq_true] <;> rfl) | rfl) ?_ <;> try ((first | with_reducible refine T_isubN (pc1 := 17) (pc := 16) k_M_spells_16 (by decide) (by omega) ?_ | refine T_isub (pc1 := 17) (pc := 16) k_M_spells_16 rfl ?_) <;> try ((first | refine T_aload_n (pc1 := 18) (pc := 17) k_M_spells_17 rfl rfl ?_ | refine T_aload_nN (pc1 := 18) (pc := 17) k_M_spells_17 rfl rfl ?_) <;> try ((refine T_cT (As := []) (d1 := 2) (pc1 := 21) (pc := 18) k_M_spells_18 rfl (by decide) (Nat.le_of_ble_eq_true rfl) rfl o_Js_length l_M_235 (by omega) rfl (c_Js_len (by omega) hL ?_) <;> try dsimp only [psh]) <;> try ((first | (with_reducible refine T_icmp_neN (tgt := 28) (pc1 := 24) (pc := 21) k_M_spells_21 (by decide) (by decide) (by omega) (by omega) (fun hc => ?_) (fun hc => ?_) <;> first | (exfalso; omega) | skip) | refine T_icmp_ne_t (tgt := 28) (pc := 21) k_M_spells_21 rfl (by decide) ?_ | refine T_icmp_ne_f (tgt := 28) (pc1 := 24) (pc := 21) k_M_spells_21 rfl rfl (by decide) ?_ | refine T_icmp_ne (tgt := 28) (pc1 := 24) (pc := 21) k_M_spells_21 rfl rfl (fun hc => ?_) (fun hc => ?_))))))))))
      | (refine T_iconst (v := (nI 1)) (pc1 := 25) (pc := 24) k_M_spells_24 rfl (by decide) ?_ <;> try (refine T_goto (tgt := 29) (pc := 25) k_M_spells_25 rfl ?_))
      | (refine T_iconst (v := (nI 0)) (pc1 := 29) (pc := 28) k_M_spells_28 rfl (by decide) ?_)
      | (refine T_istore_n (pc1 := 30) (pc := 29) k_M_spells_29 rfl (Nat.le_of_ble_eq_true rfl) ?_ <;> try (refine T_iconst (v := (nI 0)) (pc1 := 31) (pc := 30) k_M_spells_30 rfl (by decide) ?_ <;> try (refine T_istore_n (pc1 := 32) (pc := 31) k_M_spells_31 rfl (Nat.le_of_ble_eq_true rfl) ?_)))
      | refine T_getV (pc1 := 4) (pc := 1) k_M_spells_1 rfl f_M_207 rfl (by first | exact ga G (by decide) rfl | assumption) (by first | assumption | (simp (disch := omega) only [pI_eq, pI_row, pI_col, va_up_self, va_up_ne, ne_eq, not_false_eq_true] <;> rfl) | rfl) ?_
      | refine T_iconst (v := (nI 1)) (pc1 := 5) (pc := 4) k_M_spells_4 rfl (by decide) ?_
      | (with_reducible refine T_icmp_neN (tgt := 28) (pc1 := 8) (pc := 5) k_M_spells_5 (by decide) (by decide) (by omega) (by omega) (fun hc => ?_) (fun hc => ?_) <;> first | (exfalso; omega) | skip)
      | refine T_icmp_ne_t (tgt := 28) (pc := 5) k_M_spells_5 rfl (by decide) ?_
      | refine T_icmp_ne_f (tgt := 28) (pc1 := 8) (pc := 5) k_M_spells_5 rfl rfl (by decide) ?_
      | refine T_icmp_ne (tgt := 28) (pc1 := 8) (pc := 5) k_M_spells_5 rfl rfl (fun hc => ?_) (fun hc => ?_)
      | refine T_getV (pc1 := 12) (pc := 9) k_M_spells_9 rfl f_M_210 rfl (by first | exact ga G (by decide) rfl | assumption) (by first | assumption | (simp (disch := omega) only [pI_eq, pI_row, pI_col, va_up_self, va_up_ne, ne_eq, not_false_eq_true] <;> rfl) | rfl) ?_
      | refine T_aload_n (pc1 := 13) (pc := 12) k_M_spells_12 rfl rfl ?_
      | refine T_aload_nN (pc1 := 13) (pc := 12) k_M_spells_12 rfl rfl ?_
      | refine T_getV (pc1 := 16) (pc := 13) k_M_spells_13 rfl f_M_213 rfl (by first | exact ga G (by decide) rfl | assumption) (by first | assumption | (simp (disch := omega) only [pI_eq, pI_row, pI_col, va_up_self, va_up_ne, ne_eq, not_false_eq_true] <;> rfl) | rfl) ?_
      | with_reducible refine T_isubN (pc1 := 17) (pc := 16) k_M_spells_16 (by decide) (by omega) ?_
      | refine T_isub (pc1 := 17) (pc := 16) k_M_spells_16 rfl ?_
      | refine T_aload_n (pc1 := 18) (pc := 17) k_M_spells_17 rfl rfl ?_
      | refine T_aload_nN (pc1 := 18) (pc := 17) k_M_spells_17 rfl rfl ?_
      | (refine T_cT (As := []) (d1 := 2) (pc1 := 21) (pc := 18) k_M_spells_18 rfl (by decide) (Nat.le_of_ble_eq_true rfl) rfl o_Js_length l_M_235 (by omega) rfl (c_Js_len (by omega) hL ?_) <;> try dsimp only [psh])
      | (with_reducible refine T_icmp_neN (tgt := 28) (pc1 := 24) (pc := 21) k_M_spells_21 (by decide) (by decide) (by omega) (by omega) (fun hc => ?_) (fun hc => ?_) <;> first | (exfalso; omega) | skip)
      | refine T_icmp_ne_t (tgt := 28) (pc := 21) k_M_spells_21 rfl (by decide) ?_
      | refine T_icmp_ne_f (tgt := 28) (pc1 := 24) (pc := 21) k_M_spells_21 rfl rfl (by decide) ?_
      | refine T_icmp_ne (tgt := 28) (pc1 := 24) (pc := 21) k_M_spells_21 rfl rfl (fun hc => ?_) (fun hc => ?_)
      | refine T_goto (tgt := 29) (pc := 25) k_M_spells_25 rfl ?_
      | refine T_iconst (v := (nI 0)) (pc1 := 31) (pc := 30) k_M_spells_30 rfl (by decide) ?_
      | refine T_istore_n (pc1 := 32) (pc := 31) k_M_spells_31 rfl (Nat.le_of_ble_eq_true rfl) ?_)
    all_goals first | exact loop L 0 (by omega) rfl | (exfalso; omega)
  · rw [decide_eq_false c, Bool.false_and] at kf
    have kf := kf rfl
    repeat' (first
      | ((first | refine T_aload_n (pc1 := 1) (pc := 0) k_M_spells_0 rfl rfl ?_ | refine T_aload_nN (pc1 := 1) (pc := 0) k_M_spells_0 rfl rfl ?_) <;> try (refine T_getV (pc1 := 4) (pc := 1) k_M_spells_1 rfl f_M_207 rfl (by first | exact ga G (by decide) rfl | assumption) (by first | assumption | (simp (disch := omega) only [pI_eq, pI_row, pI_col, va_up_self, va_up_ne, ne_eq, not_false_eq_true] <;> rfl) | rfl) ?_ <;> try (refine T_iconst (v := (nI 1)) (pc1 := 5) (pc := 4) k_M_spells_4 rfl (by decide) ?_ <;> try ((first | (with_reducible refine T_icmp_neN (tgt := 28) (pc1 := 8) (pc := 5) k_M_spells_5 (by decide) (by decide) (by omega) (by omega) (fun hc => ?_) (fun hc => ?_) <;> first | (exfalso; omega) | skip) | refine T_icmp_ne_t (tgt := 28) (pc := 5) k_M_spells_5 rfl (by decide) ?_ | refine T_icmp_ne_f (tgt := 28) (pc1 := 8) (pc := 5) k_M_spells_5 rfl rfl (by decide) ?_ | refine T_icmp_ne (tgt := 28) (pc1 := 8) (pc := 5) k_M_spells_5 rfl rfl (fun hc => ?_) (fun hc => ?_))))))
      | ((first | refine T_aload_n (pc1 := 9) (pc := 8) k_M_spells_8 rfl rfl ?_ | refine T_aload_nN (pc1 := 9) (pc := 8) k_M_spells_8 rfl rfl ?_) <;> try (refine T_getV (pc1 := 12) (pc := 9) k_M_spells_9 rfl f_M_210 rfl (by first | exact ga G (by decide) rfl | assumption) (by first | assumption | (simp (disch := omega) only [pI_eq, pI_row, pI_col, va_up_self, va_up_ne, ne_eq, not_false_eq_true] <;> rfl) | rfl) ?_ <;> try ((first | refine T_aload_n (pc1 := 13) (pc := 12) k_M_spells_12 rfl rfl ?_ | refine T_aload_nN (pc1 := 13) (pc := 12) k_M_spells_12 rfl rfl ?_) <;> try (refine T_getV (pc1 := 16) (pc := 13) k_M_spells_13 rfl f_M_213 rfl (by first | exact ga G (by decide) rfl | assumption) (by first | assumption | (simp (disch := omega) only [pI_eq, pI_row, pI_col, va_up_self, va_up_ne, ne_eq, not_false_eq_true] <;> rfl) | rfl) ?_ <;> try ((first | with_reducible refine T_isubN (pc1 := 17) (pc := 16) k_M_spells_16 (by decide) (by omega) ?_ | refine T_isub (pc1 := 17) (pc := 16) k_M_spells_16 rfl ?_) <;> try ((first | refine T_aload_n (pc1 := 18) (pc := 17) k_M_spells_17 rfl rfl ?_ | refine T_aload_nN (pc1 := 18) (pc := 17) k_M_spells_17 rfl rfl ?_) <;> try ((refine T_cT (As := []) (d1 := 2) (pc1 := 21) (pc := 18) k_M_spells_18 rfl (by decide) (Nat.le_of_ble_eq_true rfl) rfl o_Js_length l_M_235 (by omega) rfl (c_Js_len (by omega) hL ?_) <;> try dsimp only [psh]) <;> try ((first | (with_reducible refine T_icmp_neN (tgt := 28) (pc1 := 24) (pc := 21) k_M_spells_21 (by decide) (by decide) (by omega) (by omega) (fun hc => ?_) (fun hc => ?_) <;> first | (exfalso; omega) | skip) | refine T_icmp_ne_t (tgt := 28) (pc := 21) k_M_spells_21 rfl (by decide) ?_ | refine T_icmp_ne_f (tgt := 28) (pc1 := 24) (pc := 21) k_M_spells_21 rfl rfl (by decide) ?_ | refine T_icmp_ne (tgt := 28) (pc1 := 24) (pc := 21) k_M_spells_21 rfl rfl (fun hc => ?_) (fun hc => ?_))))))))))
      | (refine T_iconst (v := (nI 1)) (pc1 := 25) (pc := 24) k_M_spells_24 rfl (by decide) ?_ <;> try (refine T_goto (tgt := 29) (pc := 25) k_M_spells_25 rfl ?_))
      | (refine T_iconst (v := (nI 0)) (pc1 := 29) (pc := 28) k_M_spells_28 rfl (by decide) ?_)
      | (refine T_istore_n (pc1 := 30) (pc := 29) k_M_spells_29 rfl (Nat.le_of_ble_eq_true rfl) ?_ <;> try (refine T_iconst (v := (nI 0)) (pc1 := 31) (pc := 30) k_M_spells_30 rfl (by decide) ?_ <;> try (refine T_istore_n (pc1 := 32) (pc := 31) k_M_spells_31 rfl (Nat.le_of_ble_eq_true rfl) ?_)))
      | refine T_getV (pc1 := 4) (pc := 1) k_M_spells_1 rfl f_M_207 rfl (by first | exact ga G (by decide) rfl | assumption) (by first | assumption | (simp (disch := omega) only [pI_eq, pI_row, pI_col, va_up_self, va_up_ne, ne_eq, not_false_eq_true] <;> rfl) | rfl) ?_
      | refine T_iconst (v := (nI 1)) (pc1 := 5) (pc := 4) k_M_spells_4 rfl (by decide) ?_
      | (with_reducible refine T_icmp_neN (tgt := 28) (pc1 := 8) (pc := 5) k_M_spells_5 (by decide) (by decide) (by omega) (by omega) (fun hc => ?_) (fun hc => ?_) <;> first | (exfalso; omega) | skip)
      | refine T_icmp_ne_t (tgt := 28) (pc := 5) k_M_spells_5 rfl (by decide) ?_
      | refine T_icmp_ne_f (tgt := 28) (pc1 := 8) (pc := 5) k_M_spells_5 rfl rfl (by decide) ?_
      | refine T_icmp_ne (tgt := 28) (pc1 := 8) (pc := 5) k_M_spells_5 rfl rfl (fun hc => ?_) (fun hc => ?_)
      | refine T_getV (pc1 := 12) (pc := 9) k_M_spells_9 rfl f_M_210 rfl (by first | exact ga G (by decide) rfl | assumption) (by first | assumption | (simp (disch := omega) only [pI_eq, pI_row, pI_col, va_up_self, va_up_ne, ne_eq, not_false_eq_true] <;> rfl) | rfl) ?_
      | refine T_aload_n (pc1 := 13) (pc := 12) k_M_spells_12 rfl rfl ?_
      | refine T_aload_nN (pc1 := 13) (pc := 12) k_M_spells_12 rfl rfl ?_
      | refine T_getV (pc1 := 16) (pc := 13) k_M_spells_13 rfl f_M_213 rfl (by first | exact ga G (by decide) rfl | assumption) (by first | assumption | (simp (disch := omega) only [pI_eq, pI_row, pI_col, va_up_self, va_up_ne, ne_eq, not_false_eq_true] <;> rfl) | rfl) ?_
      | with_reducible refine T_isubN (pc1 := 17) (pc := 16) k_M_spells_16 (by decide) (by omega) ?_
      | refine T_isub (pc1 := 17) (pc := 16) k_M_spells_16 rfl ?_
      | refine T_aload_n (pc1 := 18) (pc := 17) k_M_spells_17 rfl rfl ?_
      | refine T_aload_nN (pc1 := 18) (pc := 17) k_M_spells_17 rfl rfl ?_
      | (refine T_cT (As := []) (d1 := 2) (pc1 := 21) (pc := 18) k_M_spells_18 rfl (by decide) (Nat.le_of_ble_eq_true rfl) rfl o_Js_length l_M_235 (by omega) rfl (c_Js_len (by omega) hL ?_) <;> try dsimp only [psh])
      | (with_reducible refine T_icmp_neN (tgt := 28) (pc1 := 24) (pc := 21) k_M_spells_21 (by decide) (by decide) (by omega) (by omega) (fun hc => ?_) (fun hc => ?_) <;> first | (exfalso; omega) | skip)
      | refine T_icmp_ne_t (tgt := 28) (pc := 21) k_M_spells_21 rfl (by decide) ?_
      | refine T_icmp_ne_f (tgt := 28) (pc1 := 24) (pc := 21) k_M_spells_21 rfl rfl (by decide) ?_
      | refine T_icmp_ne (tgt := 28) (pc1 := 24) (pc := 21) k_M_spells_21 rfl rfl (fun hc => ?_) (fun hc => ?_)
      | refine T_goto (tgt := 29) (pc := 25) k_M_spells_25 rfl ?_
      | refine T_iconst (v := (nI 0)) (pc1 := 31) (pc := 30) k_M_spells_30 rfl (by decide) ?_
      | refine T_istore_n (pc1 := 32) (pc := 31) k_M_spells_31 rfl (Nat.le_of_ble_eq_true rfl) ?_)
    all_goals first | (exfalso; omega) | skip
    all_goals
      repeat' (first
        | (refine T_iload_n (pc1 := 33) (pc := 32) k_M_spells_32 rfl rfl ?_ <;> try ((first | refine T_aload_n (pc1 := 34) (pc := 33) k_M_spells_33 rfl rfl ?_ | refine T_aload_nN (pc1 := 34) (pc := 33) k_M_spells_33 rfl rfl ?_) <;> try ((refine T_cT (As := []) (d1 := 2) (pc1 := 37) (pc := 34) k_M_spells_34 rfl (by decide) (Nat.le_of_ble_eq_true rfl) rfl o_Js_length l_M_235 (by omega) rfl (c_Js_len (by omega) hL ?_) <;> try dsimp only [psh]) <;> try ((first | (with_reducible refine T_icmp_geN (tgt := 75) (pc1 := 40) (pc := 37) k_M_spells_37 (by decide) (by decide) (by omega) (by omega) (fun hc => ?_) (fun hc => ?_) <;> first | (exfalso; omega) | skip) | refine T_icmp_ge_t (tgt := 75) (pc := 37) k_M_spells_37 rfl (by decide) ?_ | refine T_icmp_ge_f (tgt := 75) (pc1 := 40) (pc := 37) k_M_spells_37 rfl rfl (by decide) ?_ | refine T_icmp_ge (tgt := 75) (pc1 := 40) (pc := 37) k_M_spells_37 rfl rfl (fun hc => ?_) (fun hc => ?_))))))
        | (refine T_iload_n (pc1 := 41) (pc := 40) k_M_spells_40 rfl rfl ?_ <;> try ((first | (with_reducible refine T_if_eqN (tgt := 75) (pc1 := 44) (pc := 41) k_M_spells_41 (by decide) (by decide) (by omega) (fun hc => ?_) (fun hc => ?_) <;> first | (exfalso; omega) | skip) | refine T_if_eq_t (tgt := 75) (pc := 41) k_M_spells_41 rfl (by decide) ?_ | refine T_if_eq_f (tgt := 75) (pc1 := 44) (pc := 41) k_M_spells_41 rfl rfl (by decide) ?_ | refine T_if_eq (tgt := 75) (pc1 := 44) (pc := 41) k_M_spells_41 rfl rfl (fun hc => ?_) (fun hc => ?_))))
        | ((first | refine T_aload_n (pc1 := 45) (pc := 44) k_M_spells_44 rfl rfl ?_ | refine T_aload_nN (pc1 := 45) (pc := 44) k_M_spells_44 rfl rfl ?_) <;> try (refine T_getR (pc1 := 48) (pc := 45) k_M_spells_45 rfl f_M_28 rfl (by first | exact ga G (by decide) rfl | assumption) (by first | exact gr G (by decide) rfl | assumption) ?_ <;> try ((first | refine T_aload_n (pc1 := 49) (pc := 48) k_M_spells_48 rfl rfl ?_ | refine T_aload_nN (pc1 := 49) (pc := 48) k_M_spells_48 rfl rfl ?_) <;> try (refine T_getV (pc1 := 52) (pc := 49) k_M_spells_49 rfl f_M_213 rfl (by first | exact ga G (by decide) rfl | assumption) (by first | assumption | (simp (disch := omega) only [pI_eq, pI_row, pI_col, va_up_self, va_up_ne, ne_eq, not_false_eq_true] <;> rfl) | rfl) ?_ <;> try (refine T_iload_n (pc1 := 53) (pc := 52) k_M_spells_52 rfl rfl ?_ <;> try ((first | with_reducible refine T_iaddN (pc1 := 54) (pc := 53) k_M_spells_53 (by decide) ?_ | refine T_iadd (pc1 := 54) (pc := 53) k_M_spells_53 rfl ?_) <;> try ((first | refine T_ialdN (pc1 := 55) (pc := 54) k_M_spells_54 rfl (by first | exact ga G (by decide) rfl | assumption) (by omega) (by omega) (by first | assumption | (simp (disch := omega) only [pI_eq, pI_row, pI_col, va_up_self, va_up_ne, ne_eq, not_false_eq_true] <;> rfl) | rfl) ?_ | refine T_iald (pc1 := 55) (pc := 54) k_M_spells_54 rfl (by first | exact ga G (by decide) rfl | assumption) (by assumption) ?_) <;> try ((first | refine T_aload_n (pc1 := 56) (pc := 55) k_M_spells_55 rfl rfl ?_ | refine T_aload_nN (pc1 := 56) (pc := 55) k_M_spells_55 rfl rfl ?_) <;> try (refine T_iload_n (pc1 := 57) (pc := 56) k_M_spells_56 rfl rfl ?_ <;> try ((refine T_cT (As := [_]) (d1 := 4) (pc1 := 60) (pc := 57) k_M_spells_57 rfl (by decide) (Nat.le_of_ble_eq_true rfl) rfl o_Js_charAt l_M_239 (by omega) rfl (c_Js_charAt hF (by omega) (by omega) ?_) <;> try dsimp only [psh]) <;> try ((first | (with_reducible refine T_icmp_neN (tgt := 67) (pc1 := 63) (pc := 60) k_M_spells_60 (by decide) (by decide) (by omega) (by omega) (fun hc => ?_) (fun hc => ?_) <;> first | (exfalso; omega) | skip) | refine T_icmp_ne_t (tgt := 67) (pc := 60) k_M_spells_60 rfl (by decide) ?_ | refine T_icmp_ne_f (tgt := 67) (pc1 := 63) (pc := 60) k_M_spells_60 rfl rfl (by decide) ?_ | refine T_icmp_ne (tgt := 67) (pc1 := 63) (pc := 60) k_M_spells_60 rfl rfl (fun hc => ?_) (fun hc => ?_)))))))))))))
        | (refine T_iconst (v := (nI 1)) (pc1 := 64) (pc := 63) k_M_spells_63 rfl (by decide) ?_ <;> try (refine T_goto (tgt := 68) (pc := 64) k_M_spells_64 rfl ?_))
        | (refine T_iconst (v := (nI 0)) (pc1 := 68) (pc := 67) k_M_spells_67 rfl (by decide) ?_)
        | (refine T_istore_n (pc1 := 69) (pc := 68) k_M_spells_68 rfl (Nat.le_of_ble_eq_true rfl) ?_ <;> try ((first | refine T_iincN (b := 1) (pc1 := 72) (pc := 69) k_M_spells_69 rfl rfl (by decide) ?_ | refine T_iinc (v := (nI 1)) (pc1 := 72) (pc := 69) k_M_spells_69 rfl rfl (by decide) ?_) <;> try (refine T_goto (tgt := 32) (pc := 72) k_M_spells_72 rfl ?_)))
        | (refine T_iload_n (pc1 := 76) (pc := 75) k_M_spells_75 rfl rfl ?_ <;> try (refine T_retI (pc := 76) k_M_spells_76 rfl (by first | rfl | decide | assumption) ?_))
        | refine T_aload_n (pc1 := 34) (pc := 33) k_M_spells_33 rfl rfl ?_
        | refine T_aload_nN (pc1 := 34) (pc := 33) k_M_spells_33 rfl rfl ?_
        | (refine T_cT (As := []) (d1 := 2) (pc1 := 37) (pc := 34) k_M_spells_34 rfl (by decide) (Nat.le_of_ble_eq_true rfl) rfl o_Js_length l_M_235 (by omega) rfl (c_Js_len (by omega) hL ?_) <;> try dsimp only [psh])
        | (with_reducible refine T_icmp_geN (tgt := 75) (pc1 := 40) (pc := 37) k_M_spells_37 (by decide) (by decide) (by omega) (by omega) (fun hc => ?_) (fun hc => ?_) <;> first | (exfalso; omega) | skip)
        | refine T_icmp_ge_t (tgt := 75) (pc := 37) k_M_spells_37 rfl (by decide) ?_
        | refine T_icmp_ge_f (tgt := 75) (pc1 := 40) (pc := 37) k_M_spells_37 rfl rfl (by decide) ?_
        | refine T_icmp_ge (tgt := 75) (pc1 := 40) (pc := 37) k_M_spells_37 rfl rfl (fun hc => ?_) (fun hc => ?_)
        | (with_reducible refine T_if_eqN (tgt := 75) (pc1 := 44) (pc := 41) k_M_spells_41 (by decide) (by decide) (by omega) (fun hc => ?_) (fun hc => ?_) <;> first | (exfalso; omega) | skip)
        | refine T_if_eq_t (tgt := 75) (pc := 41) k_M_spells_41 rfl (by decide) ?_
        | refine T_if_eq_f (tgt := 75) (pc1 := 44) (pc := 41) k_M_spells_41 rfl rfl (by decide) ?_
        | refine T_if_eq (tgt := 75) (pc1 := 44) (pc := 41) k_M_spells_41 rfl rfl (fun hc => ?_) (fun hc => ?_)
        | refine T_getR (pc1 := 48) (pc := 45) k_M_spells_45 rfl f_M_28 rfl (by first | exact ga G (by decide) rfl | assumption) (by first | exact gr G (by decide) rfl | assumption) ?_
        | refine T_aload_n (pc1 := 49) (pc := 48) k_M_spells_48 rfl rfl ?_
        | refine T_aload_nN (pc1 := 49) (pc := 48) k_M_spells_48 rfl rfl ?_
        | refine T_getV (pc1 := 52) (pc := 49) k_M_spells_49 rfl f_M_213 rfl (by first | exact ga G (by decide) rfl | assumption) (by first | assumption | (simp (disch := omega) only [pI_eq, pI_row, pI_col, va_up_self, va_up_ne, ne_eq, not_false_eq_true] <;> rfl) | rfl) ?_
        | refine T_iload_n (pc1 := 53) (pc := 52) k_M_spells_52 rfl rfl ?_
        | with_reducible refine T_iaddN (pc1 := 54) (pc := 53) k_M_spells_53 (by decide) ?_
        | refine T_iadd (pc1 := 54) (pc := 53) k_M_spells_53 rfl ?_
        | refine T_ialdN (pc1 := 55) (pc := 54) k_M_spells_54 rfl (by first | exact ga G (by decide) rfl | assumption) (by omega) (by omega) (by first | assumption | (simp (disch := omega) only [pI_eq, pI_row, pI_col, va_up_self, va_up_ne, ne_eq, not_false_eq_true] <;> rfl) | rfl) ?_
        | refine T_iald (pc1 := 55) (pc := 54) k_M_spells_54 rfl (by first | exact ga G (by decide) rfl | assumption) (by assumption) ?_
        | refine T_aload_n (pc1 := 56) (pc := 55) k_M_spells_55 rfl rfl ?_
        | refine T_aload_nN (pc1 := 56) (pc := 55) k_M_spells_55 rfl rfl ?_
        | refine T_iload_n (pc1 := 57) (pc := 56) k_M_spells_56 rfl rfl ?_
        | (refine T_cT (As := [_]) (d1 := 4) (pc1 := 60) (pc := 57) k_M_spells_57 rfl (by decide) (Nat.le_of_ble_eq_true rfl) rfl o_Js_charAt l_M_239 (by omega) rfl (c_Js_charAt hF (by omega) (by omega) ?_) <;> try dsimp only [psh])
        | (with_reducible refine T_icmp_neN (tgt := 67) (pc1 := 63) (pc := 60) k_M_spells_60 (by decide) (by decide) (by omega) (by omega) (fun hc => ?_) (fun hc => ?_) <;> first | (exfalso; omega) | skip)
        | refine T_icmp_ne_t (tgt := 67) (pc := 60) k_M_spells_60 rfl (by decide) ?_
        | refine T_icmp_ne_f (tgt := 67) (pc1 := 63) (pc := 60) k_M_spells_60 rfl rfl (by decide) ?_
        | refine T_icmp_ne (tgt := 67) (pc1 := 63) (pc := 60) k_M_spells_60 rfl rfl (fun hc => ?_) (fun hc => ?_)
        | refine T_goto (tgt := 68) (pc := 64) k_M_spells_64 rfl ?_
        | refine T_iincN (b := 1) (pc1 := 72) (pc := 69) k_M_spells_69 rfl rfl (by decide) ?_
        | refine T_iinc (v := (nI 1)) (pc1 := 72) (pc := 69) k_M_spells_69 rfl rfl (by decide) ?_
        | refine T_goto (tgt := 32) (pc := 72) k_M_spells_72 rfl ?_
        | refine T_retI (pc := 76) k_M_spells_76 rfl (by first | rfl | decide | assumption) ?_)
      all_goals first | exact kf | (exfalso; omega)
theorem c_M_mustB (G : GeoOK g) (h6 : I 101 14 = nI 0) (kk : K none g (pI I 101 14 (nI 1))) : Cl 4 M_M_must [.ref 101, .int (nI 0)] g I K := by
  show Rl 4 M_M_must 0 [some (.ref 101), some (.int (nI 0))] [] g I K
  repeat' (first
    | ((first | refine T_aload_n (pc1 := 1) (pc := 0) k_M_must_0 rfl rfl ?_ | refine T_aload_nN (pc1 := 1) (pc := 0) k_M_must_0 rfl rfl ?_) <;> try ((first | refine T_aload_n (pc1 := 2) (pc := 1) k_M_must_1 rfl rfl ?_ | refine T_aload_nN (pc1 := 2) (pc := 1) k_M_must_1 rfl rfl ?_) <;> try (refine T_getV (pc1 := 5) (pc := 2) k_M_must_2 rfl f_M_225 rfl (by first | exact ga G (by decide) rfl | assumption) (by first | assumption | (simp (disch := omega) only [pI_eq, pI_row, pI_col, va_up_self, va_up_ne, ne_eq, not_false_eq_true] <;> rfl) | rfl) ?_ <;> try ((first | (with_reducible refine T_if_neN (tgt := 12) (pc1 := 8) (pc := 5) k_M_must_5 (by decide) (by decide) (by omega) (fun hc => ?_) (fun hc => ?_) <;> first | (exfalso; omega) | skip) | refine T_if_ne_t (tgt := 12) (pc := 5) k_M_must_5 rfl (by decide) ?_ | refine T_if_ne_f (tgt := 12) (pc1 := 8) (pc := 5) k_M_must_5 rfl rfl (by decide) ?_ | refine T_if_ne (tgt := 12) (pc1 := 8) (pc := 5) k_M_must_5 rfl rfl (fun hc => ?_) (fun hc => ?_))))))
    | (refine T_iload_n (pc1 := 9) (pc := 8) k_M_must_8 rfl rfl ?_ <;> try ((first | (with_reducible refine T_if_neN (tgt := 16) (pc1 := 12) (pc := 9) k_M_must_9 (by decide) (by decide) (by omega) (fun hc => ?_) (fun hc => ?_) <;> first | (exfalso; omega) | skip) | refine T_if_ne_t (tgt := 16) (pc := 9) k_M_must_9 rfl (by decide) ?_ | refine T_if_ne_f (tgt := 16) (pc1 := 12) (pc := 9) k_M_must_9 rfl rfl (by decide) ?_ | refine T_if_ne (tgt := 16) (pc1 := 12) (pc := 9) k_M_must_9 rfl rfl (fun hc => ?_) (fun hc => ?_))))
    | (refine T_iconst (v := (nI 1)) (pc1 := 13) (pc := 12) k_M_must_12 rfl (by decide) ?_ <;> try (refine T_goto (tgt := 17) (pc := 13) k_M_must_13 rfl ?_))
    | (refine T_iconst (v := (nI 0)) (pc1 := 17) (pc := 16) k_M_must_16 rfl (by decide) ?_)
    | (refine T_putI (pc1 := 20) (pc := 17) k_M_must_17 rfl f_M_225 rfl (by first | exact ga G (by decide) rfl | assumption) (by first | rfl | decide | assumption) (by first | rfl | decide | assumption) ?_ <;> try ((first | refine T_aload_n (pc1 := 21) (pc := 20) k_M_must_20 rfl rfl ?_ | refine T_aload_nN (pc1 := 21) (pc := 20) k_M_must_20 rfl rfl ?_) <;> try (refine T_getV (pc1 := 24) (pc := 21) k_M_must_21 rfl f_M_225 rfl (by first | exact ga G (by decide) rfl | assumption) (by first | assumption | (simp (disch := omega) only [pI_eq, pI_row, pI_col, va_up_self, va_up_ne, ne_eq, not_false_eq_true] <;> rfl) | rfl) ?_ <;> try ((first | (with_reducible refine T_if_neN (tgt := 31) (pc1 := 27) (pc := 24) k_M_must_24 (by decide) (by decide) (by omega) (fun hc => ?_) (fun hc => ?_) <;> first | (exfalso; omega) | skip) | refine T_if_ne_t (tgt := 31) (pc := 24) k_M_must_24 rfl (by decide) ?_ | refine T_if_ne_f (tgt := 31) (pc1 := 27) (pc := 24) k_M_must_24 rfl rfl (by decide) ?_ | refine T_if_ne (tgt := 31) (pc1 := 27) (pc := 24) k_M_must_24 rfl rfl (fun hc => ?_) (fun hc => ?_))))))
    | ((first | refine T_aload_n (pc1 := 28) (pc := 27) k_M_must_27 rfl rfl ?_ | refine T_aload_nN (pc1 := 28) (pc := 27) k_M_must_27 rfl rfl ?_) <;> try ((refine T_cV (As := []) (d1 := 3) (pc1 := 31) (pc := 28) k_M_must_28 rfl (by decide) (Nat.le_of_ble_eq_true rfl) rfl o_M_next l_M_229 rfl (by first | exact ga G (by decide) rfl | assumption) rfl (c_M_next (T := T) (z := z) G ((pI_rw (by decide)).trans h1) ((pI_col (by decide)).trans h2) okt ((pI_col (by decide)).trans h4) hw.2.1 ((pI_col (by decide)).trans h5) hw.2.2.2.1 (fun J hJ hk j1 j2 j3 => ?_)) <;> try dsimp only [psh])))
    | (refine T_retV (pc := 31) k_M_must_31 rfl ?_)
    | refine T_aload_n (pc1 := 2) (pc := 1) k_M_must_1 rfl rfl ?_
    | refine T_aload_nN (pc1 := 2) (pc := 1) k_M_must_1 rfl rfl ?_
    | refine T_getV (pc1 := 5) (pc := 2) k_M_must_2 rfl f_M_225 rfl (by first | exact ga G (by decide) rfl | assumption) (by first | assumption | (simp (disch := omega) only [pI_eq, pI_row, pI_col, va_up_self, va_up_ne, ne_eq, not_false_eq_true] <;> rfl) | rfl) ?_
    | (with_reducible refine T_if_neN (tgt := 12) (pc1 := 8) (pc := 5) k_M_must_5 (by decide) (by decide) (by omega) (fun hc => ?_) (fun hc => ?_) <;> first | (exfalso; omega) | skip)
    | refine T_if_ne_t (tgt := 12) (pc := 5) k_M_must_5 rfl (by decide) ?_
    | refine T_if_ne_f (tgt := 12) (pc1 := 8) (pc := 5) k_M_must_5 rfl rfl (by decide) ?_
    | refine T_if_ne (tgt := 12) (pc1 := 8) (pc := 5) k_M_must_5 rfl rfl (fun hc => ?_) (fun hc => ?_)
    | (with_reducible refine T_if_neN (tgt := 16) (pc1 := 12) (pc := 9) k_M_must_9 (by decide) (by decide) (by omega) (fun hc => ?_) (fun hc => ?_) <;> first | (exfalso; omega) | skip)
    | refine T_if_ne_t (tgt := 16) (pc := 9) k_M_must_9 rfl (by decide) ?_
    | refine T_if_ne_f (tgt := 16) (pc1 := 12) (pc := 9) k_M_must_9 rfl rfl (by decide) ?_
    | refine T_if_ne (tgt := 16) (pc1 := 12) (pc := 9) k_M_must_9 rfl rfl (fun hc => ?_) (fun hc => ?_)
    | refine T_goto (tgt := 17) (pc := 13) k_M_must_13 rfl ?_
    | refine T_aload_n (pc1 := 21) (pc := 20) k_M_must_20 rfl rfl ?_
    | refine T_aload_nN (pc1 := 21) (pc := 20) k_M_must_20 rfl rfl ?_
    | refine T_getV (pc1 := 24) (pc := 21) k_M_must_21 rfl f_M_225 rfl (by first | exact ga G (by decide) rfl | assumption) (by first | assumption | (simp (disch := omega) only [pI_eq, pI_row, pI_col, va_up_self, va_up_ne, ne_eq, not_false_eq_true] <;> rfl) | rfl) ?_
    | (with_reducible refine T_if_neN (tgt := 31) (pc1 := 27) (pc := 24) k_M_must_24 (by decide) (by decide) (by omega) (fun hc => ?_) (fun hc => ?_) <;> first | (exfalso; omega) | skip)
    | refine T_if_ne_t (tgt := 31) (pc := 24) k_M_must_24 rfl (by decide) ?_
    | refine T_if_ne_f (tgt := 31) (pc1 := 27) (pc := 24) k_M_must_24 rfl rfl (by decide) ?_
    | refine T_if_ne (tgt := 31) (pc1 := 27) (pc := 24) k_M_must_24 rfl rfl (fun hc => ?_) (fun hc => ?_)
    | (refine T_cV (As := []) (d1 := 3) (pc1 := 31) (pc := 28) k_M_must_28 rfl (by decide) (Nat.le_of_ble_eq_true rfl) rfl o_M_next l_M_229 rfl (by first | exact ga G (by decide) rfl | assumption) rfl (c_M_next (T := T) (z := z) G ((pI_rw (by decide)).trans h1) ((pI_col (by decide)).trans h2) okt ((pI_col (by decide)).trans h4) hw.2.1 ((pI_col (by decide)).trans h5) hw.2.2.2.1 (fun J hJ hk j1 j2 j3 => ?_)) <;> try dsimp only [psh]))
  exact kk
set_option maxHeartbeats 4000000 in
theorem c_M_readAll {T C0 : Row} {z : Nat} (G : GeoOK g) (hF : g.1.2.2.category = 1) (okt : okTp T z) (h108 : I 108 = T) (h8 : I 101 8 = nI z) (h111 : I 111 = C0) (k0 : ∀ J, (rdA T z C0).1 = false → FrM I J → J 101 14 = nI 0 → J 101 15 = nI (rdA T z C0).2.1 → J 101 18 = nI (pV (rdA T z C0).2.2) → J 101 19 = nI (pM (rdA T z C0).2.2) → J 111 = pC (rdA T z C0).2.2 → K none g J) (k1 : ∀ J, (rdA T z C0).1 = true → FrM I J → J 101 14 = nI 1 → J 101 11 = nI (pS (rdA T z C0).2.2) → K none g J) : Cl 151 M_M_readAll [.ref 101] g I K := by
  show Rl 151 M_M_readAll 0 [some (.ref 101)] [] g I K
  have h96 := okt.1
  -- the fields are set back
  have st : ∀ I1 : IM, FrM I I1 → I1 108 = T → I1 101 8 = nI z → I1 101 12 = nI 0 → I1 101 13 = nI 0 → I1 101 14 = nI 0 → I1 101 16 = nI 0 → I1 101 17 = nI 0 → I1 101 18 = nI 0 → I1 101 19 = nI 0 → I1 111 = C0 → Rl 151 M_M_readAll 35 [some (.ref 101)] [] g I1 K := by
    intro I1 hI1 a1 a2 a4 a5 a6 a8 a9 a10 a11 a12
    repeat' (first
      | ((first | refine T_aload_n (pc1 := 36) (pc := 35) k_M_readAll_35 rfl rfl ?_ | refine T_aload_nN (pc1 := 36) (pc := 35) k_M_readAll_35 rfl rfl ?_) <;> try ((refine T_cV (As := []) (d1 := 3) (pc1 := 39) (pc := 36) k_M_readAll_36 rfl (by decide) (Nat.le_of_ble_eq_true rfl) rfl o_M_next l_M_229 rfl (by first | exact ga G (by decide) rfl | assumption) rfl (c_M_next (T := T) (z := z) G a1 a2 okt a4 (by omega) a5 (by omega) (fun J hJ hk j1 j2 j3 => ?_)) <;> try dsimp only [psh])))
      | (refine T_cV (As := []) (d1 := 3) (pc1 := 39) (pc := 36) k_M_readAll_36 rfl (by decide) (Nat.le_of_ble_eq_true rfl) rfl o_M_next l_M_229 rfl (by first | exact ga G (by decide) rfl | assumption) rfl (c_M_next (T := T) (z := z) G a1 a2 okt a4 (by omega) a5 (by omega) (fun J hJ hk j1 j2 j3 => ?_)) <;> try dsimp only [psh]))
    obtain ⟨n1, n2⟩ := nx_wf (p := p00 C0) okt (Nat.zero_le _)
    have b1 : J 108 = T := (hJ 108 (by decide)).trans a1
    have b2 : J 101 8 = nI z := (hk 8 (by decide) (by decide) (by decide)).trans a2
    have b3 : J 101 11 = nI (pS (nx T z (p00 C0))) := j1
    have b4 : J 101 12 = nI (pE (nx T z (p00 C0))) := j2
    have b5 : J 101 13 = nI (pO (nx T z (p00 C0))) := j3
    have b6 : J 101 14 = nI 0 := (hk 14 (by decide) (by decide) (by decide)).trans a6
    have b8 : J 101 16 = nI 0 := (hk 16 (by decide) (by decide) (by decide)).trans a8
    have b9 : J 101 17 = nI 0 := (hk 17 (by decide) (by decide) (by decide)).trans a9
    have b10 : J 101 18 = nI 0 := (hk 18 (by decide) (by decide) (by decide)).trans a10
    have b11 : J 101 19 = nI 0 := (hk 19 (by decide) (by decide) (by decide)).trans a11
    have b12 : J 111 = C0 := (hJ 111 (by decide)).trans a12
    have hIJ : FrM I J := FrM_tr hI1 ⟨eqx_mono hJ (by decide), fun k hk2 => hk k (by omega) (by omega) (by omega)⟩
    clear j1 j2 j3 hk hJ
    unfold rdA at k0 k1
    have good : ∀ key, keyOf T (nx T z (p00 C0)) = some key → Rl 151 M_M_readAll 95 [some (.ref 101)] [] g (pI J 101 15 (nI key)) K := by
      intro key hkey
      rw [hkey] at k0 k1
      dsimp only at k0 k1
      obtain ⟨k3, -⟩ := keyOf_lt hkey
      obtain ⟨p1, p2, p3, p4, p5⟩ := rd_pre okt hkey
      have hP : PMo T z key 0 0 (nx T z (p00 C0)) (pI J 101 15 (nI key)) := ⟨(pI_rw (by decide)).trans b1, (pI_col (by decide)).trans b2, (pI_col (by decide)).trans b3, (pI_col (by decide)).trans b4, (pI_col (by decide)).trans b5, (pI_col (by decide)).trans b6, pI_eq, (pI_col (by decide)).trans b8, (pI_col (by decide)).trans b9, (pI_col (by decide)).trans b10, (pI_col (by decide)).trans b11, (pI_rw (by decide)).trans b12⟩
      have hFr : FrM I (pI J 101 15 (nI key)) := FrM_p hIJ (by decide)
      generalize pI J 101 15 (nI key) = J1 at *
      have f15 := hP.2.2.2.2.2.2.1
      repeat' (first
        | ((first | refine T_aload_n (pc1 := 96) (pc := 95) k_M_readAll_95 rfl rfl ?_ | refine T_aload_nN (pc1 := 96) (pc := 95) k_M_readAll_95 rfl rfl ?_) <;> try ((first | refine T_aload_n (pc1 := 97) (pc := 96) k_M_readAll_96 rfl rfl ?_ | refine T_aload_nN (pc1 := 97) (pc := 96) k_M_readAll_96 rfl rfl ?_) <;> try (refine T_getV (pc1 := 100) (pc := 97) k_M_readAll_97 rfl f_M_268 rfl (by first | exact ga G (by decide) rfl | assumption) (by first | assumption | (simp (disch := omega) only [pI_eq, pI_row, pI_col, va_up_self, va_up_ne, ne_eq, not_false_eq_true] <;> rfl) | rfl) ?_ <;> try ((first | (with_reducible refine T_if_ltN (tgt := 107) (pc1 := 103) (pc := 100) k_M_readAll_100 (by decide) (by decide) (by omega) ?_ <;> first | (exfalso; omega) | skip) | refine T_if_lt_t (tgt := 107) (pc := 100) k_M_readAll_100 rfl (by decide) ?_ | refine T_if_lt_f (tgt := 107) (pc1 := 103) (pc := 100) k_M_readAll_100 rfl rfl (by decide) ?_ | refine T_if_lt (tgt := 107) (pc1 := 103) (pc := 100) k_M_readAll_100 rfl rfl (fun hc => ?_) (fun hc => ?_))))))
        | (refine T_iconst (v := (nI 1)) (pc1 := 104) (pc := 103) k_M_readAll_103 rfl (by decide) ?_ <;> try (refine T_goto (tgt := 108) (pc := 104) k_M_readAll_104 rfl ?_))
        | (refine T_iconst (v := (nI 0)) (pc1 := 108) (pc := 107) k_M_readAll_107 rfl (by decide) ?_)
        | ((refine T_cV (As := [_]) (d1 := 4) (pc1 := 111) (pc := 108) k_M_readAll_108 rfl (by decide) (Nat.le_of_ble_eq_true rfl) rfl o_M_must l_M_249 rfl (by first | exact ga G (by decide) rfl | assumption) rfl (c_M_must1 G okt hP p1 (fun J2 hJ2 hJ2P => ?_)) <;> try dsimp only [psh]))
        | refine T_aload_n (pc1 := 97) (pc := 96) k_M_readAll_96 rfl rfl ?_
        | refine T_aload_nN (pc1 := 97) (pc := 96) k_M_readAll_96 rfl rfl ?_
        | refine T_getV (pc1 := 100) (pc := 97) k_M_readAll_97 rfl f_M_268 rfl (by first | exact ga G (by decide) rfl | assumption) (by first | assumption | (simp (disch := omega) only [pI_eq, pI_row, pI_col, va_up_self, va_up_ne, ne_eq, not_false_eq_true] <;> rfl) | rfl) ?_
        | (with_reducible refine T_if_ltN (tgt := 107) (pc1 := 103) (pc := 100) k_M_readAll_100 (by decide) (by decide) (by omega) ?_ <;> first | (exfalso; omega) | skip)
        | refine T_if_lt_t (tgt := 107) (pc := 100) k_M_readAll_100 rfl (by decide) ?_
        | refine T_if_lt_f (tgt := 107) (pc1 := 103) (pc := 100) k_M_readAll_100 rfl rfl (by decide) ?_
        | refine T_if_lt (tgt := 107) (pc1 := 103) (pc := 100) k_M_readAll_100 rfl rfl (fun hc => ?_) (fun hc => ?_)
        | refine T_goto (tgt := 108) (pc := 104) k_M_readAll_104 rfl ?_)
      have f14 := hJ2P.2.2.2.2.2.1
      repeat' (first
        | ((first | refine T_aload_n (pc1 := 112) (pc := 111) k_M_readAll_111 rfl rfl ?_ | refine T_aload_nN (pc1 := 112) (pc := 111) k_M_readAll_111 rfl rfl ?_) <;> try (refine T_getV (pc1 := 115) (pc := 112) k_M_readAll_112 rfl f_M_225 rfl (by first | exact ga G (by decide) rfl | assumption) (by first | assumption | (simp (disch := omega) only [pI_eq, pI_row, pI_col, va_up_self, va_up_ne, ne_eq, not_false_eq_true] <;> rfl) | rfl) ?_ <;> try ((first | (with_reducible refine T_if_neN (tgt := 138) (pc1 := 118) (pc := 115) k_M_readAll_115 (by decide) (by decide) (by omega) (fun hc => ?_) (fun hc => ?_) <;> first | (exfalso; omega) | skip) | refine T_if_ne_t (tgt := 138) (pc := 115) k_M_readAll_115 rfl (by decide) ?_ | refine T_if_ne_f (tgt := 138) (pc1 := 118) (pc := 115) k_M_readAll_115 rfl rfl (by decide) ?_ | refine T_if_ne (tgt := 138) (pc1 := 118) (pc := 115) k_M_readAll_115 rfl rfl (fun hc => ?_) (fun hc => ?_)))))
        | ((first | refine T_aload_n (pc1 := 119) (pc := 118) k_M_readAll_118 rfl rfl ?_ | refine T_aload_nN (pc1 := 119) (pc := 118) k_M_readAll_118 rfl rfl ?_))
        | refine T_getV (pc1 := 115) (pc := 112) k_M_readAll_112 rfl f_M_225 rfl (by first | exact ga G (by decide) rfl | assumption) (by first | assumption | (simp (disch := omega) only [pI_eq, pI_row, pI_col, va_up_self, va_up_ne, ne_eq, not_false_eq_true] <;> rfl) | rfl) ?_
        | (with_reducible refine T_if_neN (tgt := 138) (pc1 := 118) (pc := 115) k_M_readAll_115 (by decide) (by decide) (by omega) (fun hc => ?_) (fun hc => ?_) <;> first | (exfalso; omega) | skip)
        | refine T_if_ne_t (tgt := 138) (pc := 115) k_M_readAll_115 rfl (by decide) ?_
        | refine T_if_ne_f (tgt := 138) (pc1 := 118) (pc := 115) k_M_readAll_115 rfl rfl (by decide) ?_
        | refine T_if_ne (tgt := 138) (pc1 := 118) (pc := 115) k_M_readAll_115 rfl rfl (fun hc => ?_) (fun hc => ?_))
      have q := prs_ok okt k3 700 0 0 0 (nx T z (nx T z (p00 C0))) (Or.inl (by decide)) p2 p3 p4 (by omega)
      have rd := c_M_rd G hF okt k3 700 0 (by decide) 0 0 (nx T z (nx T z (p00 C0))) J2
      generalize prs T z key 700 0 0 0 (nx T z (nx T z (p00 C0))) = r at *
      refine T_cV (As := []) (d1 := dM 0 0 0) (pc1 := 122) (pc := 119) k_M_readAll_119 rfl (by decide) (Nat.le_of_ble_eq_true rfl) rfl o_M_readOr l_M_262 rfl (ga G (by decide) rfl) rfl (rd _ (by decide) (by decide) p2 p3 p4 (by omega) hJ2P (fun J3 hb hJ3 hJ3P => ?_) (fun J3 hb hJ3 hJ3P => ?_)) <;> try dsimp only [psh]
      · rw [hb, if_neg (by decide)] at k0 k1
        have w4 := q.1.2.2.2.1
        have f13 := hJ3P.2.2.2.2.1
        by_cases e0 : pO r.2 = 0
        · rw [if_pos e0] at k0
          repeat' (first
            | ((first | refine T_aload_n (pc1 := 123) (pc := 122) k_M_readAll_122 rfl rfl ?_ | refine T_aload_nN (pc1 := 123) (pc := 122) k_M_readAll_122 rfl rfl ?_) <;> try ((first | refine T_aload_n (pc1 := 124) (pc := 123) k_M_readAll_123 rfl rfl ?_ | refine T_aload_nN (pc1 := 124) (pc := 123) k_M_readAll_123 rfl rfl ?_) <;> try (refine T_getV (pc1 := 127) (pc := 124) k_M_readAll_124 rfl f_M_207 rfl (by first | exact ga G (by decide) rfl | assumption) (by first | assumption | (simp (disch := omega) only [pI_eq, pI_row, pI_col, va_up_self, va_up_ne, ne_eq, not_false_eq_true] <;> rfl) | rfl) ?_ <;> try ((first | (with_reducible refine T_if_neN (tgt := 134) (pc1 := 130) (pc := 127) k_M_readAll_127 (by decide) (by decide) (by omega) (fun hc => ?_) (fun hc => ?_) <;> first | (exfalso; omega) | skip) | refine T_if_ne_t (tgt := 134) (pc := 127) k_M_readAll_127 rfl (by decide) ?_ | refine T_if_ne_f (tgt := 134) (pc1 := 130) (pc := 127) k_M_readAll_127 rfl rfl (by decide) ?_ | refine T_if_ne (tgt := 134) (pc1 := 130) (pc := 127) k_M_readAll_127 rfl rfl (fun hc => ?_) (fun hc => ?_))))))
            | (refine T_iconst (v := (nI 1)) (pc1 := 131) (pc := 130) k_M_readAll_130 rfl (by decide) ?_ <;> try (refine T_goto (tgt := 135) (pc := 131) k_M_readAll_131 rfl ?_))
            | (refine T_iconst (v := (nI 0)) (pc1 := 135) (pc := 134) k_M_readAll_134 rfl (by decide) ?_)
            | ((refine T_cV (As := [_]) (d1 := 4) (pc1 := 138) (pc := 135) k_M_readAll_135 rfl (by decide) (Nat.le_of_ble_eq_true rfl) rfl o_M_must l_M_249 rfl (by first | exact ga G (by decide) rfl | assumption) rfl (c_M_must1 G okt hJ3P q.1 (fun J4 hJ4 hJ4P => ?_)) <;> try dsimp only [psh]))
            | (refine T_retV (pc := 138) k_M_readAll_138 rfl ?_)
            | refine T_aload_n (pc1 := 124) (pc := 123) k_M_readAll_123 rfl rfl ?_
            | refine T_aload_nN (pc1 := 124) (pc := 123) k_M_readAll_123 rfl rfl ?_
            | refine T_getV (pc1 := 127) (pc := 124) k_M_readAll_124 rfl f_M_207 rfl (by first | exact ga G (by decide) rfl | assumption) (by first | assumption | (simp (disch := omega) only [pI_eq, pI_row, pI_col, va_up_self, va_up_ne, ne_eq, not_false_eq_true] <;> rfl) | rfl) ?_
            | (with_reducible refine T_if_neN (tgt := 134) (pc1 := 130) (pc := 127) k_M_readAll_127 (by decide) (by decide) (by omega) (fun hc => ?_) (fun hc => ?_) <;> first | (exfalso; omega) | skip)
            | refine T_if_ne_t (tgt := 134) (pc := 127) k_M_readAll_127 rfl (by decide) ?_
            | refine T_if_ne_f (tgt := 134) (pc1 := 130) (pc := 127) k_M_readAll_127 rfl rfl (by decide) ?_
            | refine T_if_ne (tgt := 134) (pc1 := 130) (pc := 127) k_M_readAll_127 rfl rfl (fun hc => ?_) (fun hc => ?_)
            | refine T_goto (tgt := 135) (pc := 131) k_M_readAll_131 rfl ?_)
          all_goals try (exfalso; omega)
          exact k0 J4 rfl (FrM_tr hFr (FrM_tr hJ2 (FrM_tr hJ3 hJ4))) hJ4P.2.2.2.2.2.1 hJ4P.2.2.2.2.2.2.1 hJ4P.2.2.2.2.2.2.2.2.2.1 hJ4P.2.2.2.2.2.2.2.2.2.2.1 hJ4P.2.2.2.2.2.2.2.2.2.2.2
        · rw [if_neg e0] at k1
          repeat' (first
            | ((first | refine T_aload_n (pc1 := 123) (pc := 122) k_M_readAll_122 rfl rfl ?_ | refine T_aload_nN (pc1 := 123) (pc := 122) k_M_readAll_122 rfl rfl ?_) <;> try ((first | refine T_aload_n (pc1 := 124) (pc := 123) k_M_readAll_123 rfl rfl ?_ | refine T_aload_nN (pc1 := 124) (pc := 123) k_M_readAll_123 rfl rfl ?_) <;> try (refine T_getV (pc1 := 127) (pc := 124) k_M_readAll_124 rfl f_M_207 rfl (by first | exact ga G (by decide) rfl | assumption) (by first | assumption | (simp (disch := omega) only [pI_eq, pI_row, pI_col, va_up_self, va_up_ne, ne_eq, not_false_eq_true] <;> rfl) | rfl) ?_ <;> try ((first | (with_reducible refine T_if_neN (tgt := 134) (pc1 := 130) (pc := 127) k_M_readAll_127 (by decide) (by decide) (by omega) (fun hc => ?_) (fun hc => ?_) <;> first | (exfalso; omega) | skip) | refine T_if_ne_t (tgt := 134) (pc := 127) k_M_readAll_127 rfl (by decide) ?_ | refine T_if_ne_f (tgt := 134) (pc1 := 130) (pc := 127) k_M_readAll_127 rfl rfl (by decide) ?_ | refine T_if_ne (tgt := 134) (pc1 := 130) (pc := 127) k_M_readAll_127 rfl rfl (fun hc => ?_) (fun hc => ?_))))))
            | (refine T_iconst (v := (nI 1)) (pc1 := 131) (pc := 130) k_M_readAll_130 rfl (by decide) ?_ <;> try (refine T_goto (tgt := 135) (pc := 131) k_M_readAll_131 rfl ?_))
            | (refine T_iconst (v := (nI 0)) (pc1 := 135) (pc := 134) k_M_readAll_134 rfl (by decide) ?_)
            | ((refine T_cV (As := [_]) (d1 := 4) (pc1 := 138) (pc := 135) k_M_readAll_135 rfl (by decide) (Nat.le_of_ble_eq_true rfl) rfl o_M_must l_M_249 rfl (by first | exact ga G (by decide) rfl | assumption) rfl (c_M_must0 G hJ3P (fun J4 hJ4 hJ4P => ?_)) <;> try dsimp only [psh]))
            | (refine T_retV (pc := 138) k_M_readAll_138 rfl ?_)
            | refine T_aload_n (pc1 := 124) (pc := 123) k_M_readAll_123 rfl rfl ?_
            | refine T_aload_nN (pc1 := 124) (pc := 123) k_M_readAll_123 rfl rfl ?_
            | refine T_getV (pc1 := 127) (pc := 124) k_M_readAll_124 rfl f_M_207 rfl (by first | exact ga G (by decide) rfl | assumption) (by first | assumption | (simp (disch := omega) only [pI_eq, pI_row, pI_col, va_up_self, va_up_ne, ne_eq, not_false_eq_true] <;> rfl) | rfl) ?_
            | (with_reducible refine T_if_neN (tgt := 134) (pc1 := 130) (pc := 127) k_M_readAll_127 (by decide) (by decide) (by omega) (fun hc => ?_) (fun hc => ?_) <;> first | (exfalso; omega) | skip)
            | refine T_if_ne_t (tgt := 134) (pc := 127) k_M_readAll_127 rfl (by decide) ?_
            | refine T_if_ne_f (tgt := 134) (pc1 := 130) (pc := 127) k_M_readAll_127 rfl rfl (by decide) ?_
            | refine T_if_ne (tgt := 134) (pc1 := 130) (pc := 127) k_M_readAll_127 rfl rfl (fun hc => ?_) (fun hc => ?_)
            | refine T_goto (tgt := 135) (pc := 131) k_M_readAll_131 rfl ?_)
          all_goals try (exfalso; omega)
          exact k1 J4 rfl (FrM_tr hFr (FrM_tr hJ2 (FrM_tr hJ3 hJ4))) hJ4P.2.2.2.2.2.1 hJ4P.2.2.1
      · rw [hb, if_pos rfl] at k1
        repeat' (first
          | ((first | refine T_aload_n (pc1 := 123) (pc := 122) k_M_readAll_122 rfl rfl ?_ | refine T_aload_nN (pc1 := 123) (pc := 122) k_M_readAll_122 rfl rfl ?_) <;> try ((first | refine T_aload_n (pc1 := 124) (pc := 123) k_M_readAll_123 rfl rfl ?_ | refine T_aload_nN (pc1 := 124) (pc := 123) k_M_readAll_123 rfl rfl ?_) <;> try (refine T_getV (pc1 := 127) (pc := 124) k_M_readAll_124 rfl f_M_207 rfl (by first | exact ga G (by decide) rfl | assumption) (by first | assumption | (simp (disch := omega) only [pI_eq, pI_row, pI_col, va_up_self, va_up_ne, ne_eq, not_false_eq_true] <;> rfl) | rfl) ?_ <;> try ((first | (with_reducible refine T_if_neN (tgt := 134) (pc1 := 130) (pc := 127) k_M_readAll_127 (by decide) (by decide) (by omega) (fun hc => ?_) (fun hc => ?_) <;> first | (exfalso; omega) | skip) | refine T_if_ne_t (tgt := 134) (pc := 127) k_M_readAll_127 rfl (by decide) ?_ | refine T_if_ne_f (tgt := 134) (pc1 := 130) (pc := 127) k_M_readAll_127 rfl rfl (by decide) ?_ | refine T_if_ne (tgt := 134) (pc1 := 130) (pc := 127) k_M_readAll_127 rfl rfl (fun hc => ?_) (fun hc => ?_))))))
          | (refine T_iconst (v := (nI 1)) (pc1 := 131) (pc := 130) k_M_readAll_130 rfl (by decide) ?_ <;> try (refine T_goto (tgt := 135) (pc := 131) k_M_readAll_131 rfl ?_))
          | (refine T_iconst (v := (nI 0)) (pc1 := 135) (pc := 134) k_M_readAll_134 rfl (by decide) ?_)
          | ((refine T_cV (As := [_]) (d1 := 4) (pc1 := 138) (pc := 135) k_M_readAll_135 rfl (by decide) (Nat.le_of_ble_eq_true rfl) rfl o_M_must l_M_249 rfl (by first | exact ga G (by decide) rfl | assumption) rfl (c_M_mustw G hJ3P (fun J4 hJ4 hJ4P => ?_)) <;> try dsimp only [psh]))
          | (refine T_retV (pc := 138) k_M_readAll_138 rfl ?_)
          | refine T_aload_n (pc1 := 124) (pc := 123) k_M_readAll_123 rfl rfl ?_
          | refine T_aload_nN (pc1 := 124) (pc := 123) k_M_readAll_123 rfl rfl ?_
          | refine T_getV (pc1 := 127) (pc := 124) k_M_readAll_124 rfl f_M_207 rfl (by first | exact ga G (by decide) rfl | assumption) (by first | assumption | (simp (disch := omega) only [pI_eq, pI_row, pI_col, va_up_self, va_up_ne, ne_eq, not_false_eq_true] <;> rfl) | rfl) ?_
          | (with_reducible refine T_if_neN (tgt := 134) (pc1 := 130) (pc := 127) k_M_readAll_127 (by decide) (by decide) (by omega) (fun hc => ?_) (fun hc => ?_) <;> first | (exfalso; omega) | skip)
          | refine T_if_ne_t (tgt := 134) (pc := 127) k_M_readAll_127 rfl (by decide) ?_
          | refine T_if_ne_f (tgt := 134) (pc1 := 130) (pc := 127) k_M_readAll_127 rfl rfl (by decide) ?_
          | refine T_if_ne (tgt := 134) (pc1 := 130) (pc := 127) k_M_readAll_127 rfl rfl (fun hc => ?_) (fun hc => ?_)
          | refine T_goto (tgt := 135) (pc := 131) k_M_readAll_131 rfl ?_)
        all_goals exact k1 J4 rfl (FrM_tr hFr (FrM_tr hJ2 (FrM_tr hJ3 hJ4))) hJ4P.2.2.2.2.2.1 hJ4P.2.2.1
    repeat' (first
      | ((first | refine T_aload_n (pc1 := 40) (pc := 39) k_M_readAll_39 rfl rfl ?_ | refine T_aload_nN (pc1 := 40) (pc := 39) k_M_readAll_39 rfl rfl ?_) <;> try ((first | refine T_aload_n (pc1 := 41) (pc := 40) k_M_readAll_40 rfl rfl ?_ | refine T_aload_nN (pc1 := 41) (pc := 40) k_M_readAll_40 rfl rfl ?_) <;> try ((first | refine T_aload_n (pc1 := 42) (pc := 41) k_M_readAll_41 rfl rfl ?_ | refine T_aload_nN (pc1 := 42) (pc := 41) k_M_readAll_41 rfl rfl ?_) <;> try (refine T_getR (pc1 := 45) (pc := 42) k_M_readAll_42 rfl f_M_39 rfl (by first | exact ga G (by decide) rfl | assumption) (by first | exact gr G (by decide) rfl | assumption) ?_ <;> try (refine T_iconst (v := (nI 0)) (pc1 := 46) (pc := 45) k_M_readAll_45 rfl (by decide) ?_ <;> try ((first | refine T_aaldQ (e0 := 4) (pc1 := 47) (pc := 46) k_M_readAll_46 rfl (by first | exact ga G (by decide) rfl | assumption) (by decide) (by omega) (by omega) (by first | exact gr G (by decide) rfl | assumption) ?_ | refine T_aaldQ (e0 := 0) (pc1 := 47) (pc := 46) k_M_readAll_46 rfl (by first | exact ga G (by decide) rfl | assumption) (by decide) (by omega) (by omega) (by first | exact gr G (by decide) rfl | assumption) ?_ | refine T_aaldQ (e0 := 1) (pc1 := 47) (pc := 46) k_M_readAll_46 rfl (by first | exact ga G (by decide) rfl | assumption) (by decide) (by omega) (by omega) (by first | exact gr G (by decide) rfl | assumption) ?_ | refine T_aaldQ (e0 := 2) (pc1 := 47) (pc := 46) k_M_readAll_46 rfl (by first | exact ga G (by decide) rfl | assumption) (by decide) (by omega) (by omega) (by first | exact gr G (by decide) rfl | assumption) ?_ | refine T_aaldQ (e0 := 3) (pc1 := 47) (pc := 46) k_M_readAll_46 rfl (by first | exact ga G (by decide) rfl | assumption) (by decide) (by omega) (by omega) (by first | exact gr G (by decide) rfl | assumption) ?_) <;> try ((refine T_cV (As := [_]) (d1 := 5) (pc1 := 50) (pc := 47) k_M_readAll_47 rfl (by decide) (Nat.le_of_ble_eq_true rfl) rfl o_M_spells l_M_286 rfl (by first | exact ga G (by decide) rfl | assumption) rfl (c_M_spells (j := 0) G hF okt (by decide) n1 b1 b3 b4 b5 (fun s0 => ?_) (fun s0 => ?_)) <;> try dsimp only [psh]) <;> try ((first | (with_reducible refine T_if_eqN (tgt := 57) (pc1 := 53) (pc := 50) k_M_readAll_50 (by decide) (by decide) (by omega) (fun hc => ?_) (fun hc => ?_) <;> first | (exfalso; omega) | skip) | refine T_if_eq_t (tgt := 57) (pc := 50) k_M_readAll_50 rfl (by decide) ?_ | refine T_if_eq_f (tgt := 57) (pc1 := 53) (pc := 50) k_M_readAll_50 rfl rfl (by decide) ?_ | refine T_if_eq (tgt := 57) (pc1 := 53) (pc := 50) k_M_readAll_50 rfl rfl (fun hc => ?_) (fun hc => ?_))))))))))
      | (refine T_iconst (v := (nI 0)) (pc1 := 54) (pc := 53) k_M_readAll_53 rfl (by decide) ?_ <;> try (refine T_goto (tgt := 92) (pc := 54) k_M_readAll_54 rfl ?_))
      | ((first | refine T_aload_n (pc1 := 58) (pc := 57) k_M_readAll_57 rfl rfl ?_ | refine T_aload_nN (pc1 := 58) (pc := 57) k_M_readAll_57 rfl rfl ?_) <;> try ((first | refine T_aload_n (pc1 := 59) (pc := 58) k_M_readAll_58 rfl rfl ?_ | refine T_aload_nN (pc1 := 59) (pc := 58) k_M_readAll_58 rfl rfl ?_) <;> try (refine T_getR (pc1 := 62) (pc := 59) k_M_readAll_59 rfl f_M_39 rfl (by first | exact ga G (by decide) rfl | assumption) (by first | exact gr G (by decide) rfl | assumption) ?_ <;> try (refine T_iconst (v := (nI 1)) (pc1 := 63) (pc := 62) k_M_readAll_62 rfl (by decide) ?_ <;> try ((first | refine T_aaldQ (e0 := 4) (pc1 := 64) (pc := 63) k_M_readAll_63 rfl (by first | exact ga G (by decide) rfl | assumption) (by decide) (by omega) (by omega) (by first | exact gr G (by decide) rfl | assumption) ?_ | refine T_aaldQ (e0 := 0) (pc1 := 64) (pc := 63) k_M_readAll_63 rfl (by first | exact ga G (by decide) rfl | assumption) (by decide) (by omega) (by omega) (by first | exact gr G (by decide) rfl | assumption) ?_ | refine T_aaldQ (e0 := 1) (pc1 := 64) (pc := 63) k_M_readAll_63 rfl (by first | exact ga G (by decide) rfl | assumption) (by decide) (by omega) (by omega) (by first | exact gr G (by decide) rfl | assumption) ?_ | refine T_aaldQ (e0 := 2) (pc1 := 64) (pc := 63) k_M_readAll_63 rfl (by first | exact ga G (by decide) rfl | assumption) (by decide) (by omega) (by omega) (by first | exact gr G (by decide) rfl | assumption) ?_ | refine T_aaldQ (e0 := 3) (pc1 := 64) (pc := 63) k_M_readAll_63 rfl (by first | exact ga G (by decide) rfl | assumption) (by decide) (by omega) (by omega) (by first | exact gr G (by decide) rfl | assumption) ?_) <;> try ((refine T_cV (As := [_]) (d1 := 5) (pc1 := 67) (pc := 64) k_M_readAll_64 rfl (by decide) (Nat.le_of_ble_eq_true rfl) rfl o_M_spells l_M_286 rfl (by first | exact ga G (by decide) rfl | assumption) rfl (c_M_spells (j := 1) G hF okt (by decide) n1 b1 b3 b4 b5 (fun s1 => ?_) (fun s1 => ?_)) <;> try dsimp only [psh]) <;> try ((first | (with_reducible refine T_if_eqN (tgt := 74) (pc1 := 70) (pc := 67) k_M_readAll_67 (by decide) (by decide) (by omega) (fun hc => ?_) (fun hc => ?_) <;> first | (exfalso; omega) | skip) | refine T_if_eq_t (tgt := 74) (pc := 67) k_M_readAll_67 rfl (by decide) ?_ | refine T_if_eq_f (tgt := 74) (pc1 := 70) (pc := 67) k_M_readAll_67 rfl rfl (by decide) ?_ | refine T_if_eq (tgt := 74) (pc1 := 70) (pc := 67) k_M_readAll_67 rfl rfl (fun hc => ?_) (fun hc => ?_)))))))))
      | (refine T_iconst (v := (nI 1)) (pc1 := 71) (pc := 70) k_M_readAll_70 rfl (by decide) ?_ <;> try (refine T_goto (tgt := 92) (pc := 71) k_M_readAll_71 rfl ?_))
      | ((first | refine T_aload_n (pc1 := 75) (pc := 74) k_M_readAll_74 rfl rfl ?_ | refine T_aload_nN (pc1 := 75) (pc := 74) k_M_readAll_74 rfl rfl ?_) <;> try ((first | refine T_aload_n (pc1 := 76) (pc := 75) k_M_readAll_75 rfl rfl ?_ | refine T_aload_nN (pc1 := 76) (pc := 75) k_M_readAll_75 rfl rfl ?_) <;> try (refine T_getR (pc1 := 79) (pc := 76) k_M_readAll_76 rfl f_M_39 rfl (by first | exact ga G (by decide) rfl | assumption) (by first | exact gr G (by decide) rfl | assumption) ?_ <;> try (refine T_iconst (v := (nI 2)) (pc1 := 80) (pc := 79) k_M_readAll_79 rfl (by decide) ?_ <;> try ((first | refine T_aaldQ (e0 := 4) (pc1 := 81) (pc := 80) k_M_readAll_80 rfl (by first | exact ga G (by decide) rfl | assumption) (by decide) (by omega) (by omega) (by first | exact gr G (by decide) rfl | assumption) ?_ | refine T_aaldQ (e0 := 0) (pc1 := 81) (pc := 80) k_M_readAll_80 rfl (by first | exact ga G (by decide) rfl | assumption) (by decide) (by omega) (by omega) (by first | exact gr G (by decide) rfl | assumption) ?_ | refine T_aaldQ (e0 := 1) (pc1 := 81) (pc := 80) k_M_readAll_80 rfl (by first | exact ga G (by decide) rfl | assumption) (by decide) (by omega) (by omega) (by first | exact gr G (by decide) rfl | assumption) ?_ | refine T_aaldQ (e0 := 2) (pc1 := 81) (pc := 80) k_M_readAll_80 rfl (by first | exact ga G (by decide) rfl | assumption) (by decide) (by omega) (by omega) (by first | exact gr G (by decide) rfl | assumption) ?_ | refine T_aaldQ (e0 := 3) (pc1 := 81) (pc := 80) k_M_readAll_80 rfl (by first | exact ga G (by decide) rfl | assumption) (by decide) (by omega) (by omega) (by first | exact gr G (by decide) rfl | assumption) ?_) <;> try ((refine T_cV (As := [_]) (d1 := 5) (pc1 := 84) (pc := 81) k_M_readAll_81 rfl (by decide) (Nat.le_of_ble_eq_true rfl) rfl o_M_spells l_M_286 rfl (by first | exact ga G (by decide) rfl | assumption) rfl (c_M_spells (j := 2) G hF okt (by decide) n1 b1 b3 b4 b5 (fun s2 => ?_) (fun s2 => ?_)) <;> try dsimp only [psh]) <;> try ((first | (with_reducible refine T_if_eqN (tgt := 91) (pc1 := 87) (pc := 84) k_M_readAll_84 (by decide) (by decide) (by omega) (fun hc => ?_) (fun hc => ?_) <;> first | (exfalso; omega) | skip) | refine T_if_eq_t (tgt := 91) (pc := 84) k_M_readAll_84 rfl (by decide) ?_ | refine T_if_eq_f (tgt := 91) (pc1 := 87) (pc := 84) k_M_readAll_84 rfl rfl (by decide) ?_ | refine T_if_eq (tgt := 91) (pc1 := 87) (pc := 84) k_M_readAll_84 rfl rfl (fun hc => ?_) (fun hc => ?_)))))))))
      | (refine T_iconst (v := (nI 2)) (pc1 := 88) (pc := 87) k_M_readAll_87 rfl (by decide) ?_ <;> try (refine T_goto (tgt := 92) (pc := 88) k_M_readAll_88 rfl ?_))
      | (refine T_iconst (v := (-1)) (pc1 := 92) (pc := 91) k_M_readAll_91 rfl (by decide) ?_)
      | (refine T_putI (pc1 := 95) (pc := 92) k_M_readAll_92 rfl f_M_268 rfl (by first | exact ga G (by decide) rfl | assumption) (by first | rfl | decide | assumption) (by first | rfl | decide | assumption) ?_)
      | refine T_aload_n (pc1 := 41) (pc := 40) k_M_readAll_40 rfl rfl ?_
      | refine T_aload_nN (pc1 := 41) (pc := 40) k_M_readAll_40 rfl rfl ?_
      | refine T_aload_n (pc1 := 42) (pc := 41) k_M_readAll_41 rfl rfl ?_
      | refine T_aload_nN (pc1 := 42) (pc := 41) k_M_readAll_41 rfl rfl ?_
      | refine T_getR (pc1 := 45) (pc := 42) k_M_readAll_42 rfl f_M_39 rfl (by first | exact ga G (by decide) rfl | assumption) (by first | exact gr G (by decide) rfl | assumption) ?_
      | refine T_iconst (v := (nI 0)) (pc1 := 46) (pc := 45) k_M_readAll_45 rfl (by decide) ?_
      | refine T_aaldQ (e0 := 4) (pc1 := 47) (pc := 46) k_M_readAll_46 rfl (by first | exact ga G (by decide) rfl | assumption) (by decide) (by omega) (by omega) (by first | exact gr G (by decide) rfl | assumption) ?_
      | refine T_aaldQ (e0 := 0) (pc1 := 47) (pc := 46) k_M_readAll_46 rfl (by first | exact ga G (by decide) rfl | assumption) (by decide) (by omega) (by omega) (by first | exact gr G (by decide) rfl | assumption) ?_
      | refine T_aaldQ (e0 := 1) (pc1 := 47) (pc := 46) k_M_readAll_46 rfl (by first | exact ga G (by decide) rfl | assumption) (by decide) (by omega) (by omega) (by first | exact gr G (by decide) rfl | assumption) ?_
      | refine T_aaldQ (e0 := 2) (pc1 := 47) (pc := 46) k_M_readAll_46 rfl (by first | exact ga G (by decide) rfl | assumption) (by decide) (by omega) (by omega) (by first | exact gr G (by decide) rfl | assumption) ?_
      | refine T_aaldQ (e0 := 3) (pc1 := 47) (pc := 46) k_M_readAll_46 rfl (by first | exact ga G (by decide) rfl | assumption) (by decide) (by omega) (by omega) (by first | exact gr G (by decide) rfl | assumption) ?_
      | (refine T_cV (As := [_]) (d1 := 5) (pc1 := 50) (pc := 47) k_M_readAll_47 rfl (by decide) (Nat.le_of_ble_eq_true rfl) rfl o_M_spells l_M_286 rfl (by first | exact ga G (by decide) rfl | assumption) rfl (c_M_spells (j := 0) G hF okt (by decide) n1 b1 b3 b4 b5 (fun s0 => ?_) (fun s0 => ?_)) <;> try dsimp only [psh])
      | (with_reducible refine T_if_eqN (tgt := 57) (pc1 := 53) (pc := 50) k_M_readAll_50 (by decide) (by decide) (by omega) (fun hc => ?_) (fun hc => ?_) <;> first | (exfalso; omega) | skip)
      | refine T_if_eq_t (tgt := 57) (pc := 50) k_M_readAll_50 rfl (by decide) ?_
      | refine T_if_eq_f (tgt := 57) (pc1 := 53) (pc := 50) k_M_readAll_50 rfl rfl (by decide) ?_
      | refine T_if_eq (tgt := 57) (pc1 := 53) (pc := 50) k_M_readAll_50 rfl rfl (fun hc => ?_) (fun hc => ?_)
      | refine T_goto (tgt := 92) (pc := 54) k_M_readAll_54 rfl ?_
      | refine T_aload_n (pc1 := 59) (pc := 58) k_M_readAll_58 rfl rfl ?_
      | refine T_aload_nN (pc1 := 59) (pc := 58) k_M_readAll_58 rfl rfl ?_
      | refine T_getR (pc1 := 62) (pc := 59) k_M_readAll_59 rfl f_M_39 rfl (by first | exact ga G (by decide) rfl | assumption) (by first | exact gr G (by decide) rfl | assumption) ?_
      | refine T_iconst (v := (nI 1)) (pc1 := 63) (pc := 62) k_M_readAll_62 rfl (by decide) ?_
      | refine T_aaldQ (e0 := 4) (pc1 := 64) (pc := 63) k_M_readAll_63 rfl (by first | exact ga G (by decide) rfl | assumption) (by decide) (by omega) (by omega) (by first | exact gr G (by decide) rfl | assumption) ?_
      | refine T_aaldQ (e0 := 0) (pc1 := 64) (pc := 63) k_M_readAll_63 rfl (by first | exact ga G (by decide) rfl | assumption) (by decide) (by omega) (by omega) (by first | exact gr G (by decide) rfl | assumption) ?_
      | refine T_aaldQ (e0 := 1) (pc1 := 64) (pc := 63) k_M_readAll_63 rfl (by first | exact ga G (by decide) rfl | assumption) (by decide) (by omega) (by omega) (by first | exact gr G (by decide) rfl | assumption) ?_
      | refine T_aaldQ (e0 := 2) (pc1 := 64) (pc := 63) k_M_readAll_63 rfl (by first | exact ga G (by decide) rfl | assumption) (by decide) (by omega) (by omega) (by first | exact gr G (by decide) rfl | assumption) ?_
      | refine T_aaldQ (e0 := 3) (pc1 := 64) (pc := 63) k_M_readAll_63 rfl (by first | exact ga G (by decide) rfl | assumption) (by decide) (by omega) (by omega) (by first | exact gr G (by decide) rfl | assumption) ?_
      | (refine T_cV (As := [_]) (d1 := 5) (pc1 := 67) (pc := 64) k_M_readAll_64 rfl (by decide) (Nat.le_of_ble_eq_true rfl) rfl o_M_spells l_M_286 rfl (by first | exact ga G (by decide) rfl | assumption) rfl (c_M_spells (j := 1) G hF okt (by decide) n1 b1 b3 b4 b5 (fun s1 => ?_) (fun s1 => ?_)) <;> try dsimp only [psh])
      | (with_reducible refine T_if_eqN (tgt := 74) (pc1 := 70) (pc := 67) k_M_readAll_67 (by decide) (by decide) (by omega) (fun hc => ?_) (fun hc => ?_) <;> first | (exfalso; omega) | skip)
      | refine T_if_eq_t (tgt := 74) (pc := 67) k_M_readAll_67 rfl (by decide) ?_
      | refine T_if_eq_f (tgt := 74) (pc1 := 70) (pc := 67) k_M_readAll_67 rfl rfl (by decide) ?_
      | refine T_if_eq (tgt := 74) (pc1 := 70) (pc := 67) k_M_readAll_67 rfl rfl (fun hc => ?_) (fun hc => ?_)
      | refine T_goto (tgt := 92) (pc := 71) k_M_readAll_71 rfl ?_
      | refine T_aload_n (pc1 := 76) (pc := 75) k_M_readAll_75 rfl rfl ?_
      | refine T_aload_nN (pc1 := 76) (pc := 75) k_M_readAll_75 rfl rfl ?_
      | refine T_getR (pc1 := 79) (pc := 76) k_M_readAll_76 rfl f_M_39 rfl (by first | exact ga G (by decide) rfl | assumption) (by first | exact gr G (by decide) rfl | assumption) ?_
      | refine T_iconst (v := (nI 2)) (pc1 := 80) (pc := 79) k_M_readAll_79 rfl (by decide) ?_
      | refine T_aaldQ (e0 := 4) (pc1 := 81) (pc := 80) k_M_readAll_80 rfl (by first | exact ga G (by decide) rfl | assumption) (by decide) (by omega) (by omega) (by first | exact gr G (by decide) rfl | assumption) ?_
      | refine T_aaldQ (e0 := 0) (pc1 := 81) (pc := 80) k_M_readAll_80 rfl (by first | exact ga G (by decide) rfl | assumption) (by decide) (by omega) (by omega) (by first | exact gr G (by decide) rfl | assumption) ?_
      | refine T_aaldQ (e0 := 1) (pc1 := 81) (pc := 80) k_M_readAll_80 rfl (by first | exact ga G (by decide) rfl | assumption) (by decide) (by omega) (by omega) (by first | exact gr G (by decide) rfl | assumption) ?_
      | refine T_aaldQ (e0 := 2) (pc1 := 81) (pc := 80) k_M_readAll_80 rfl (by first | exact ga G (by decide) rfl | assumption) (by decide) (by omega) (by omega) (by first | exact gr G (by decide) rfl | assumption) ?_
      | refine T_aaldQ (e0 := 3) (pc1 := 81) (pc := 80) k_M_readAll_80 rfl (by first | exact ga G (by decide) rfl | assumption) (by decide) (by omega) (by omega) (by first | exact gr G (by decide) rfl | assumption) ?_
      | (refine T_cV (As := [_]) (d1 := 5) (pc1 := 84) (pc := 81) k_M_readAll_81 rfl (by decide) (Nat.le_of_ble_eq_true rfl) rfl o_M_spells l_M_286 rfl (by first | exact ga G (by decide) rfl | assumption) rfl (c_M_spells (j := 2) G hF okt (by decide) n1 b1 b3 b4 b5 (fun s2 => ?_) (fun s2 => ?_)) <;> try dsimp only [psh])
      | (with_reducible refine T_if_eqN (tgt := 91) (pc1 := 87) (pc := 84) k_M_readAll_84 (by decide) (by decide) (by omega) (fun hc => ?_) (fun hc => ?_) <;> first | (exfalso; omega) | skip)
      | refine T_if_eq_t (tgt := 91) (pc := 84) k_M_readAll_84 rfl (by decide) ?_
      | refine T_if_eq_f (tgt := 91) (pc1 := 87) (pc := 84) k_M_readAll_84 rfl rfl (by decide) ?_
      | refine T_if_eq (tgt := 91) (pc1 := 87) (pc := 84) k_M_readAll_84 rfl rfl (fun hc => ?_) (fun hc => ?_)
      | refine T_goto (tgt := 92) (pc := 88) k_M_readAll_88 rfl ?_)
    · exact good 0 (by rw [keyOf, if_pos s0])
    · exact good 1 (by rw [keyOf, if_neg (by rw [s0]; decide), if_pos s1])
    · exact good 2 (by rw [keyOf, if_neg (by rw [s0]; decide), if_neg (by rw [s1]; decide), if_pos s2])
    · have hkey : keyOf T (nx T z (p00 C0)) = none := by rw [keyOf, if_neg (by rw [s0]; decide), if_neg (by rw [s1]; decide), if_neg (by rw [s2]; decide)]
      rw [hkey] at k1
      dsimp only at k1
      have f15 : pI J 101 15 (-1) 101 15 = -1 := pI_eq
      repeat' (first
        | ((first | refine T_aload_n (pc1 := 96) (pc := 95) k_M_readAll_95 rfl rfl ?_ | refine T_aload_nN (pc1 := 96) (pc := 95) k_M_readAll_95 rfl rfl ?_) <;> try ((first | refine T_aload_n (pc1 := 97) (pc := 96) k_M_readAll_96 rfl rfl ?_ | refine T_aload_nN (pc1 := 97) (pc := 96) k_M_readAll_96 rfl rfl ?_) <;> try (refine T_getV (pc1 := 100) (pc := 97) k_M_readAll_97 rfl f_M_268 rfl (by first | exact ga G (by decide) rfl | assumption) (by first | assumption | (simp (disch := omega) only [pI_eq, pI_row, pI_col, va_up_self, va_up_ne, ne_eq, not_false_eq_true] <;> rfl) | rfl) ?_ <;> try ((first | (with_reducible refine T_if_ltN (tgt := 107) (pc1 := 103) (pc := 100) k_M_readAll_100 (by decide) (by decide) (by omega) ?_ <;> first | (exfalso; omega) | skip) | refine T_if_lt_t (tgt := 107) (pc := 100) k_M_readAll_100 rfl (by decide) ?_ | refine T_if_lt_f (tgt := 107) (pc1 := 103) (pc := 100) k_M_readAll_100 rfl rfl (by decide) ?_ | refine T_if_lt (tgt := 107) (pc1 := 103) (pc := 100) k_M_readAll_100 rfl rfl (fun hc => ?_) (fun hc => ?_))))))
        | (refine T_iconst (v := (nI 1)) (pc1 := 104) (pc := 103) k_M_readAll_103 rfl (by decide) ?_ <;> try (refine T_goto (tgt := 108) (pc := 104) k_M_readAll_104 rfl ?_))
        | (refine T_iconst (v := (nI 0)) (pc1 := 108) (pc := 107) k_M_readAll_107 rfl (by decide) ?_)
        | ((refine T_cV (As := [_]) (d1 := 4) (pc1 := 111) (pc := 108) k_M_readAll_108 rfl (by decide) (Nat.le_of_ble_eq_true rfl) rfl o_M_must l_M_249 rfl (by first | exact ga G (by decide) rfl | assumption) rfl (c_M_mustB G ((pI_col (by decide)).trans b6) ?_) <;> try dsimp only [psh]) <;> try ((first | refine T_aload_n (pc1 := 112) (pc := 111) k_M_readAll_111 rfl rfl ?_ | refine T_aload_nN (pc1 := 112) (pc := 111) k_M_readAll_111 rfl rfl ?_) <;> try (refine T_getV (pc1 := 115) (pc := 112) k_M_readAll_112 rfl f_M_225 rfl (by first | exact ga G (by decide) rfl | assumption) (by first | assumption | (simp (disch := omega) only [pI_eq, pI_row, pI_col, va_up_self, va_up_ne, ne_eq, not_false_eq_true] <;> rfl) | rfl) ?_ <;> try ((first | (with_reducible refine T_if_neN (tgt := 138) (pc1 := 118) (pc := 115) k_M_readAll_115 (by decide) (by decide) (by omega) (fun hc => ?_) (fun hc => ?_) <;> first | (exfalso; omega) | skip) | refine T_if_ne_t (tgt := 138) (pc := 115) k_M_readAll_115 rfl (by decide) ?_ | refine T_if_ne_f (tgt := 138) (pc1 := 118) (pc := 115) k_M_readAll_115 rfl rfl (by decide) ?_ | refine T_if_ne (tgt := 138) (pc1 := 118) (pc := 115) k_M_readAll_115 rfl rfl (fun hc => ?_) (fun hc => ?_))))))
        | ((first | refine T_aload_n (pc1 := 119) (pc := 118) k_M_readAll_118 rfl rfl ?_ | refine T_aload_nN (pc1 := 119) (pc := 118) k_M_readAll_118 rfl rfl ?_))
        | ((first | refine T_aload_n (pc1 := 123) (pc := 122) k_M_readAll_122 rfl rfl ?_ | refine T_aload_nN (pc1 := 123) (pc := 122) k_M_readAll_122 rfl rfl ?_) <;> try ((first | refine T_aload_n (pc1 := 124) (pc := 123) k_M_readAll_123 rfl rfl ?_ | refine T_aload_nN (pc1 := 124) (pc := 123) k_M_readAll_123 rfl rfl ?_) <;> try (refine T_getV (pc1 := 127) (pc := 124) k_M_readAll_124 rfl f_M_207 rfl (by first | exact ga G (by decide) rfl | assumption) (by first | assumption | (simp (disch := omega) only [pI_eq, pI_row, pI_col, va_up_self, va_up_ne, ne_eq, not_false_eq_true] <;> rfl) | rfl) ?_ <;> try ((first | (with_reducible refine T_if_neN (tgt := 134) (pc1 := 130) (pc := 127) k_M_readAll_127 (by decide) (by decide) (by omega) (fun hc => ?_) (fun hc => ?_) <;> first | (exfalso; omega) | skip) | refine T_if_ne_t (tgt := 134) (pc := 127) k_M_readAll_127 rfl (by decide) ?_ | refine T_if_ne_f (tgt := 134) (pc1 := 130) (pc := 127) k_M_readAll_127 rfl rfl (by decide) ?_ | refine T_if_ne (tgt := 134) (pc1 := 130) (pc := 127) k_M_readAll_127 rfl rfl (fun hc => ?_) (fun hc => ?_))))))
        | (refine T_iconst (v := (nI 1)) (pc1 := 131) (pc := 130) k_M_readAll_130 rfl (by decide) ?_ <;> try (refine T_goto (tgt := 135) (pc := 131) k_M_readAll_131 rfl ?_))
        | (refine T_iconst (v := (nI 0)) (pc1 := 135) (pc := 134) k_M_readAll_134 rfl (by decide) ?_)
        | ((refine T_cV (As := [_]) (d1 := 4) (pc1 := 138) (pc := 135) k_M_readAll_135 rfl (by decide) (Nat.le_of_ble_eq_true rfl) rfl o_M_must l_M_249 rfl (by first | exact ga G (by decide) rfl | assumption) rfl (c_M_mustw G hJ3P (fun J4 hJ4 hJ4P => ?_)) <;> try dsimp only [psh]))
        | (refine T_retV (pc := 138) k_M_readAll_138 rfl ?_)
        | refine T_aload_n (pc1 := 97) (pc := 96) k_M_readAll_96 rfl rfl ?_
        | refine T_aload_nN (pc1 := 97) (pc := 96) k_M_readAll_96 rfl rfl ?_
        | refine T_getV (pc1 := 100) (pc := 97) k_M_readAll_97 rfl f_M_268 rfl (by first | exact ga G (by decide) rfl | assumption) (by first | assumption | (simp (disch := omega) only [pI_eq, pI_row, pI_col, va_up_self, va_up_ne, ne_eq, not_false_eq_true] <;> rfl) | rfl) ?_
        | (with_reducible refine T_if_ltN (tgt := 107) (pc1 := 103) (pc := 100) k_M_readAll_100 (by decide) (by decide) (by omega) ?_ <;> first | (exfalso; omega) | skip)
        | refine T_if_lt_t (tgt := 107) (pc := 100) k_M_readAll_100 rfl (by decide) ?_
        | refine T_if_lt_f (tgt := 107) (pc1 := 103) (pc := 100) k_M_readAll_100 rfl rfl (by decide) ?_
        | refine T_if_lt (tgt := 107) (pc1 := 103) (pc := 100) k_M_readAll_100 rfl rfl (fun hc => ?_) (fun hc => ?_)
        | refine T_goto (tgt := 108) (pc := 104) k_M_readAll_104 rfl ?_
        | refine T_aload_n (pc1 := 112) (pc := 111) k_M_readAll_111 rfl rfl ?_
        | refine T_aload_nN (pc1 := 112) (pc := 111) k_M_readAll_111 rfl rfl ?_
        | refine T_getV (pc1 := 115) (pc := 112) k_M_readAll_112 rfl f_M_225 rfl (by first | exact ga G (by decide) rfl | assumption) (by first | assumption | (simp (disch := omega) only [pI_eq, pI_row, pI_col, va_up_self, va_up_ne, ne_eq, not_false_eq_true] <;> rfl) | rfl) ?_
        | (with_reducible refine T_if_neN (tgt := 138) (pc1 := 118) (pc := 115) k_M_readAll_115 (by decide) (by decide) (by omega) (fun hc => ?_) (fun hc => ?_) <;> first | (exfalso; omega) | skip)
        | refine T_if_ne_t (tgt := 138) (pc := 115) k_M_readAll_115 rfl (by decide) ?_
        | refine T_if_ne_f (tgt := 138) (pc1 := 118) (pc := 115) k_M_readAll_115 rfl rfl (by decide) ?_
        | refine T_if_ne (tgt := 138) (pc1 := 118) (pc := 115) k_M_readAll_115 rfl rfl (fun hc => ?_) (fun hc => ?_)
        | refine T_aload_n (pc1 := 124) (pc := 123) k_M_readAll_123 rfl rfl ?_
        | refine T_aload_nN (pc1 := 124) (pc := 123) k_M_readAll_123 rfl rfl ?_
        | refine T_getV (pc1 := 127) (pc := 124) k_M_readAll_124 rfl f_M_207 rfl (by first | exact ga G (by decide) rfl | assumption) (by first | assumption | (simp (disch := omega) only [pI_eq, pI_row, pI_col, va_up_self, va_up_ne, ne_eq, not_false_eq_true] <;> rfl) | rfl) ?_
        | (with_reducible refine T_if_neN (tgt := 134) (pc1 := 130) (pc := 127) k_M_readAll_127 (by decide) (by decide) (by omega) (fun hc => ?_) (fun hc => ?_) <;> first | (exfalso; omega) | skip)
        | refine T_if_ne_t (tgt := 134) (pc := 127) k_M_readAll_127 rfl (by decide) ?_
        | refine T_if_ne_f (tgt := 134) (pc1 := 130) (pc := 127) k_M_readAll_127 rfl rfl (by decide) ?_
        | refine T_if_ne (tgt := 134) (pc1 := 130) (pc := 127) k_M_readAll_127 rfl rfl (fun hc => ?_) (fun hc => ?_)
        | refine T_goto (tgt := 135) (pc := 131) k_M_readAll_131 rfl ?_)
      exact k1 _ rfl (FrM_p (FrM_p hIJ (by decide)) (by decide)) pI_eq (by rw [pI_col (by decide), pI_col (by decide)]; exact b3)
  repeat' (first
    | ((first | refine T_aload_n (pc1 := 1) (pc := 0) k_M_readAll_0 rfl rfl ?_ | refine T_aload_nN (pc1 := 1) (pc := 0) k_M_readAll_0 rfl rfl ?_) <;> try (refine T_iconst (v := (nI 0)) (pc1 := 2) (pc := 1) k_M_readAll_1 rfl (by decide) ?_ <;> try (refine T_putI (pc1 := 5) (pc := 2) k_M_readAll_2 rfl f_M_210 rfl (by first | exact ga G (by decide) rfl | assumption) (by first | rfl | decide | assumption) (by first | rfl | decide | assumption) ?_ <;> try ((first | refine T_aload_n (pc1 := 6) (pc := 5) k_M_readAll_5 rfl rfl ?_ | refine T_aload_nN (pc1 := 6) (pc := 5) k_M_readAll_5 rfl rfl ?_) <;> try (refine T_iconst (v := (nI 0)) (pc1 := 7) (pc := 6) k_M_readAll_6 rfl (by decide) ?_ <;> try (refine T_putI (pc1 := 10) (pc := 7) k_M_readAll_7 rfl f_M_207 rfl (by first | exact ga G (by decide) rfl | assumption) (by first | rfl | decide | assumption) (by first | rfl | decide | assumption) ?_ <;> try ((first | refine T_aload_n (pc1 := 11) (pc := 10) k_M_readAll_10 rfl rfl ?_ | refine T_aload_nN (pc1 := 11) (pc := 10) k_M_readAll_10 rfl rfl ?_) <;> try (refine T_iconst (v := (nI 0)) (pc1 := 12) (pc := 11) k_M_readAll_11 rfl (by decide) ?_ <;> try (refine T_putI (pc1 := 15) (pc := 12) k_M_readAll_12 rfl f_M_225 rfl (by first | exact ga G (by decide) rfl | assumption) (by first | rfl | decide | assumption) (by first | rfl | decide | assumption) ?_ <;> try ((first | refine T_aload_n (pc1 := 16) (pc := 15) k_M_readAll_15 rfl rfl ?_ | refine T_aload_nN (pc1 := 16) (pc := 15) k_M_readAll_15 rfl rfl ?_) <;> try (refine T_iconst (v := (nI 0)) (pc1 := 17) (pc := 16) k_M_readAll_16 rfl (by decide) ?_ <;> try (refine T_putI (pc1 := 20) (pc := 17) k_M_readAll_17 rfl f_M_259 rfl (by first | exact ga G (by decide) rfl | assumption) (by first | rfl | decide | assumption) (by first | rfl | decide | assumption) ?_ <;> try ((first | refine T_aload_n (pc1 := 21) (pc := 20) k_M_readAll_20 rfl rfl ?_ | refine T_aload_nN (pc1 := 21) (pc := 20) k_M_readAll_20 rfl rfl ?_) <;> try (refine T_iconst (v := (nI 0)) (pc1 := 22) (pc := 21) k_M_readAll_21 rfl (by decide) ?_ <;> try (refine T_putI (pc1 := 25) (pc := 22) k_M_readAll_22 rfl f_M_246 rfl (by first | exact ga G (by decide) rfl | assumption) (by first | rfl | decide | assumption) (by first | rfl | decide | assumption) ?_ <;> try ((first | refine T_aload_n (pc1 := 26) (pc := 25) k_M_readAll_25 rfl rfl ?_ | refine T_aload_nN (pc1 := 26) (pc := 25) k_M_readAll_25 rfl rfl ?_) <;> try (refine T_iconst (v := (nI 0)) (pc1 := 27) (pc := 26) k_M_readAll_26 rfl (by decide) ?_ <;> try (refine T_putI (pc1 := 30) (pc := 27) k_M_readAll_27 rfl f_M_271 rfl (by first | exact ga G (by decide) rfl | assumption) (by first | rfl | decide | assumption) (by first | rfl | decide | assumption) ?_ <;> try ((first | refine T_aload_n (pc1 := 31) (pc := 30) k_M_readAll_30 rfl rfl ?_ | refine T_aload_nN (pc1 := 31) (pc := 30) k_M_readAll_30 rfl rfl ?_) <;> try (refine T_iconst (v := (nI 0)) (pc1 := 32) (pc := 31) k_M_readAll_31 rfl (by decide) ?_ <;> try (refine T_putI (pc1 := 35) (pc := 32) k_M_readAll_32 rfl f_M_232 rfl (by first | exact ga G (by decide) rfl | assumption) (by first | rfl | decide | assumption) (by first | rfl | decide | assumption) ?_)))))))))))))))))))))
    | refine T_iconst (v := (nI 0)) (pc1 := 2) (pc := 1) k_M_readAll_1 rfl (by decide) ?_
    | refine T_putI (pc1 := 5) (pc := 2) k_M_readAll_2 rfl f_M_210 rfl (by first | exact ga G (by decide) rfl | assumption) (by first | rfl | decide | assumption) (by first | rfl | decide | assumption) ?_
    | refine T_aload_n (pc1 := 6) (pc := 5) k_M_readAll_5 rfl rfl ?_
    | refine T_aload_nN (pc1 := 6) (pc := 5) k_M_readAll_5 rfl rfl ?_
    | refine T_iconst (v := (nI 0)) (pc1 := 7) (pc := 6) k_M_readAll_6 rfl (by decide) ?_
    | refine T_putI (pc1 := 10) (pc := 7) k_M_readAll_7 rfl f_M_207 rfl (by first | exact ga G (by decide) rfl | assumption) (by first | rfl | decide | assumption) (by first | rfl | decide | assumption) ?_
    | refine T_aload_n (pc1 := 11) (pc := 10) k_M_readAll_10 rfl rfl ?_
    | refine T_aload_nN (pc1 := 11) (pc := 10) k_M_readAll_10 rfl rfl ?_
    | refine T_iconst (v := (nI 0)) (pc1 := 12) (pc := 11) k_M_readAll_11 rfl (by decide) ?_
    | refine T_putI (pc1 := 15) (pc := 12) k_M_readAll_12 rfl f_M_225 rfl (by first | exact ga G (by decide) rfl | assumption) (by first | rfl | decide | assumption) (by first | rfl | decide | assumption) ?_
    | refine T_aload_n (pc1 := 16) (pc := 15) k_M_readAll_15 rfl rfl ?_
    | refine T_aload_nN (pc1 := 16) (pc := 15) k_M_readAll_15 rfl rfl ?_
    | refine T_iconst (v := (nI 0)) (pc1 := 17) (pc := 16) k_M_readAll_16 rfl (by decide) ?_
    | refine T_putI (pc1 := 20) (pc := 17) k_M_readAll_17 rfl f_M_259 rfl (by first | exact ga G (by decide) rfl | assumption) (by first | rfl | decide | assumption) (by first | rfl | decide | assumption) ?_
    | refine T_aload_n (pc1 := 21) (pc := 20) k_M_readAll_20 rfl rfl ?_
    | refine T_aload_nN (pc1 := 21) (pc := 20) k_M_readAll_20 rfl rfl ?_
    | refine T_iconst (v := (nI 0)) (pc1 := 22) (pc := 21) k_M_readAll_21 rfl (by decide) ?_
    | refine T_putI (pc1 := 25) (pc := 22) k_M_readAll_22 rfl f_M_246 rfl (by first | exact ga G (by decide) rfl | assumption) (by first | rfl | decide | assumption) (by first | rfl | decide | assumption) ?_
    | refine T_aload_n (pc1 := 26) (pc := 25) k_M_readAll_25 rfl rfl ?_
    | refine T_aload_nN (pc1 := 26) (pc := 25) k_M_readAll_25 rfl rfl ?_
    | refine T_iconst (v := (nI 0)) (pc1 := 27) (pc := 26) k_M_readAll_26 rfl (by decide) ?_
    | refine T_putI (pc1 := 30) (pc := 27) k_M_readAll_27 rfl f_M_271 rfl (by first | exact ga G (by decide) rfl | assumption) (by first | rfl | decide | assumption) (by first | rfl | decide | assumption) ?_
    | refine T_aload_n (pc1 := 31) (pc := 30) k_M_readAll_30 rfl rfl ?_
    | refine T_aload_nN (pc1 := 31) (pc := 30) k_M_readAll_30 rfl rfl ?_
    | refine T_iconst (v := (nI 0)) (pc1 := 32) (pc := 31) k_M_readAll_31 rfl (by decide) ?_
    | refine T_putI (pc1 := 35) (pc := 32) k_M_readAll_32 rfl f_M_232 rfl (by first | exact ga G (by decide) rfl | assumption) (by first | rfl | decide | assumption) (by first | rfl | decide | assumption) ?_)
  refine st _ (FrM_p (FrM_p (FrM_p (FrM_p (FrM_p (FrM_p (FrM_p FrM_rf (by decide)) (by decide)) (by decide)) (by decide)) (by decide)) (by decide)) (by decide)) ?_ ?_ ?_ ?_ ?_ ?_ ?_ ?_ ?_ ?_
  all_goals simp (disch := decide) only [pI_eq, pI_col, pI_rw, pI_row, h108, h8, h111, ne_eq]
theorem tAdd_m {N : Row} {t key : Nat} {p : PS} : tAdd N t key p 6 = nI (t + 1) := by unfold tAdd; rw [va_up_self]
set_option maxRecDepth 100000 in
set_option maxHeartbeats 4000000 in
theorem c_M_text {N T C0 : Row} {n tn z : Nat} (G : GeoOK g) (hF : g.1.2.2.category = 1) (okt : okTp T z) (hN : I 102 = N) (ok : okL N n tn) (h108 : I 108 = T) (h8 : I 101 8 = nI z) (h111 : I 111 = C0) (kk : ∀ J r, eqx [101, 102, 111] I J → J 102 = textN N tn T z C0 → (∀ k, (k < 11 ∨ 19 < k) → k ≠ 8 → J 101 k = I 101 k) → J 101 8 = nI 0 → r = textA tn T z C0 → K (some (.int r)) g J) : Cl 152 M_M_text [.ref 101] g I K := by
  show Rl 152 M_M_text 0 [some (.ref 101), none, none, none] [] g I K
  have hk0 := fun h => rdA_ok (C0 := C0) okt h
  unfold textN textA at kk
  obtain ⟨-, -, h6, h14, -⟩ := id ok
  have hs96 : (rdA T z C0).1 = true → True := fun _ => trivial
  generalize hrd : rdA T z C0 = r at kk hk0
  first | refine T_aload_n (pc1 := 1) (pc := 0) k_M_text_0 rfl rfl ?_ | refine T_aload_nN (pc1 := 1) (pc := 0) k_M_text_0 rfl rfl ?_
  (refine T_cV (As := []) (d1 := 151) (pc1 := 4) (pc := 1) k_M_text_1 rfl (by decide) (Nat.le_of_ble_eq_true rfl) rfl o_M_readAll l_M_290 rfl (by first | exact ga G (by decide) rfl | assumption) rfl (c_M_readAll G hF okt h108 h8 h111 (fun J hb hJ j14 j15 j18 j19 j111 => ?_) (fun J hb hJ j14 j11 => ?_)) <;> try dsimp only [psh])
  · rw [hrd] at hb j15 j18 j19 j111
    obtain ⟨k3, -, m96, v96, -⟩ := hk0 hb
    rw [if_neg (show ¬ r.1 = true by rw [hb]; decide)] at kk
    have hJN : J 102 = N := (hJ.1 102 (by decide)).trans hN
    have frm : ∀ J2 : IM, eqx [102] (pI J 101 8 (nI 0)) J2 → eqx [101, 102, 111] I J2 ∧ (∀ k, (k < 11 ∨ 19 < k) → k ≠ 8 → J2 101 k = I 101 k) ∧ J2 101 8 = nI 0 := by
      intro J2 h2
      refine ⟨fun i hi => ?_, fun k a b => ?_, ?_⟩
      · rw [h2 i (fun q => hi (by simp at q ⊢; omega)), pI_rw (fun q => hi (by simp; omega))]
        exact hJ.1 i (fun q => hi (by simp at q ⊢; omega))
      · rw [h2 101 (by decide), pI_col b]; exact hJ.2 k a
      · rw [h2 101 (by decide), pI_eq]
    have b14 : pI J 101 8 (nI 0) 101 14 = nI 0 := (pI_col (by decide)).trans j14
    have b102 : pI J 101 8 (nI 0) 102 = N := (pI_rw (by decide)).trans hJN
    have b15 : pI J 101 8 (nI 0) 101 15 = nI r.2.1 := (pI_col (by decide)).trans j15
    have b18 : pI J 101 8 (nI 0) 101 18 = nI (pV r.2.2) := (pI_col (by decide)).trans j18
    have b19 : pI J 101 8 (nI 0) 101 19 = nI (pM r.2.2) := (pI_col (by decide)).trans j19
    have b111 : pI J 101 8 (nI 0) 111 = pC r.2.2 := (pI_rw (by decide)).trans j111
    repeat' (first
      | ((first | refine T_aload_n (pc1 := 5) (pc := 4) k_M_text_4 rfl rfl ?_ | refine T_aload_nN (pc1 := 5) (pc := 4) k_M_text_4 rfl rfl ?_) <;> try (refine T_iconst (v := (nI 0)) (pc1 := 6) (pc := 5) k_M_text_5 rfl (by decide) ?_ <;> try (refine T_putI (pc1 := 9) (pc := 6) k_M_text_6 rfl f_M_200 rfl (by first | exact ga G (by decide) rfl | assumption) (by first | rfl | decide | assumption) (by first | rfl | decide | assumption) ?_)))
      | refine T_iconst (v := (nI 0)) (pc1 := 6) (pc := 5) k_M_text_5 rfl (by decide) ?_
      | refine T_putI (pc1 := 9) (pc := 6) k_M_text_6 rfl f_M_200 rfl (by first | exact ga G (by decide) rfl | assumption) (by first | rfl | decide | assumption) (by first | rfl | decide | assumption) ?_)
    generalize pI J 101 8 (nI 0) = J1 at *
    by_cases ht : tn = 14
    · rw [if_neg (fun q => q.2 ht), if_pos ht] at kk
      repeat' (first
        | ((first | refine T_aload_n (pc1 := 10) (pc := 9) k_M_text_9 rfl rfl ?_ | refine T_aload_nN (pc1 := 10) (pc := 9) k_M_text_9 rfl rfl ?_) <;> try (refine T_getV (pc1 := 13) (pc := 10) k_M_text_10 rfl f_M_225 rfl (by first | exact ga G (by decide) rfl | assumption) (by first | assumption | (simp (disch := omega) only [pI_eq, pI_row, pI_col, va_up_self, va_up_ne, ne_eq, not_false_eq_true, b102, h6] <;> rfl) | rfl) ?_ <;> try ((first | (with_reducible refine T_if_eqN (tgt := 24) (pc1 := 16) (pc := 13) k_M_text_13 (by decide) (by decide) (by omega) (fun hc => ?_) (fun hc => ?_) <;> first | (exfalso; omega) | skip) | refine T_if_eq_t (tgt := 24) (pc := 13) k_M_text_13 rfl (by decide) ?_ | refine T_if_eq_f (tgt := 24) (pc1 := 16) (pc := 13) k_M_text_13 rfl rfl (by decide) ?_ | refine T_if_eq (tgt := 24) (pc1 := 16) (pc := 13) k_M_text_13 rfl rfl (fun hc => ?_) (fun hc => ?_)))))
        | (refine T_bipush (v := (-100)) (pc1 := 18) (pc := 16) k_M_text_16 rfl (by decide) ?_ <;> try ((first | refine T_aload_n (pc1 := 19) (pc := 18) k_M_text_18 rfl rfl ?_ | refine T_aload_nN (pc1 := 19) (pc := 18) k_M_text_18 rfl rfl ?_) <;> try (refine T_getV (pc1 := 22) (pc := 19) k_M_text_19 rfl f_M_213 rfl (by first | exact ga G (by decide) rfl | assumption) (by first | assumption | (simp (disch := omega) only [pI_eq, pI_row, pI_col, va_up_self, va_up_ne, ne_eq, not_false_eq_true, b102, h6] <;> rfl) | rfl) ?_ <;> try ((first | with_reducible refine T_isubN (pc1 := 23) (pc := 22) k_M_text_22 (by decide) (by omega) ?_ | refine T_isub (pc1 := 23) (pc := 22) k_M_text_22 rfl ?_) <;> try (refine T_retI (pc := 23) k_M_text_23 rfl (by first | rfl | decide | assumption) ?_)))))
        | ((first | refine T_aload_n (pc1 := 25) (pc := 24) k_M_text_24 rfl rfl ?_ | refine T_aload_nN (pc1 := 25) (pc := 24) k_M_text_24 rfl rfl ?_) <;> try (refine T_getR (pc1 := 28) (pc := 25) k_M_text_25 rfl f_M_9 rfl (by first | exact ga G (by decide) rfl | assumption) (by first | exact gr G (by decide) rfl | assumption) ?_ <;> try (refine T_bipush (v := (nI 6)) (pc1 := 30) (pc := 28) k_M_text_28 rfl (by decide) ?_ <;> try ((first | refine T_ialdN (pc1 := 31) (pc := 30) k_M_text_30 rfl (by first | exact ga G (by decide) rfl | assumption) (by omega) (by omega) (by first | assumption | (simp (disch := omega) only [pI_eq, pI_row, pI_col, va_up_self, va_up_ne, ne_eq, not_false_eq_true, b102, h6] <;> rfl) | rfl) ?_ | refine T_iald (pc1 := 31) (pc := 30) k_M_text_30 rfl (by first | exact ga G (by decide) rfl | assumption) (by assumption) ?_) <;> try (refine T_istore_n (pc1 := 32) (pc := 31) k_M_text_31 rfl (Nat.le_of_ble_eq_true rfl) ?_ <;> try (refine T_iload_n (pc1 := 33) (pc := 32) k_M_text_32 rfl rfl ?_ <;> try (refine T_bipush (v := (nI 14)) (pc1 := 35) (pc := 33) k_M_text_33 rfl (by decide) ?_ <;> try ((first | (with_reducible refine T_icmp_neN (tgt := 41) (pc1 := 38) (pc := 35) k_M_text_35 (by decide) (by decide) (by omega) (by omega) (fun hc => ?_) (fun hc => ?_) <;> first | (exfalso; omega) | skip) | refine T_icmp_ne_t (tgt := 41) (pc := 35) k_M_text_35 rfl (by decide) ?_ | refine T_icmp_ne_f (tgt := 41) (pc1 := 38) (pc := 35) k_M_text_35 rfl rfl (by decide) ?_ | refine T_icmp_ne (tgt := 41) (pc1 := 38) (pc := 35) k_M_text_35 rfl rfl (fun hc => ?_) (fun hc => ?_))))))))))
        | (refine T_ldc (v := (-1000000003)) (pc1 := 40) (pc := 38) k_M_text_38 rfl c_M_112 ?_ <;> try (refine T_retI (pc := 40) k_M_text_40 rfl (by first | rfl | decide | assumption) ?_))
        | refine T_getV (pc1 := 13) (pc := 10) k_M_text_10 rfl f_M_225 rfl (by first | exact ga G (by decide) rfl | assumption) (by first | assumption | (simp (disch := omega) only [pI_eq, pI_row, pI_col, va_up_self, va_up_ne, ne_eq, not_false_eq_true, b102, h6] <;> rfl) | rfl) ?_
        | (with_reducible refine T_if_eqN (tgt := 24) (pc1 := 16) (pc := 13) k_M_text_13 (by decide) (by decide) (by omega) (fun hc => ?_) (fun hc => ?_) <;> first | (exfalso; omega) | skip)
        | refine T_if_eq_t (tgt := 24) (pc := 13) k_M_text_13 rfl (by decide) ?_
        | refine T_if_eq_f (tgt := 24) (pc1 := 16) (pc := 13) k_M_text_13 rfl rfl (by decide) ?_
        | refine T_if_eq (tgt := 24) (pc1 := 16) (pc := 13) k_M_text_13 rfl rfl (fun hc => ?_) (fun hc => ?_)
        | refine T_aload_n (pc1 := 19) (pc := 18) k_M_text_18 rfl rfl ?_
        | refine T_aload_nN (pc1 := 19) (pc := 18) k_M_text_18 rfl rfl ?_
        | refine T_getV (pc1 := 22) (pc := 19) k_M_text_19 rfl f_M_213 rfl (by first | exact ga G (by decide) rfl | assumption) (by first | assumption | (simp (disch := omega) only [pI_eq, pI_row, pI_col, va_up_self, va_up_ne, ne_eq, not_false_eq_true, b102, h6] <;> rfl) | rfl) ?_
        | with_reducible refine T_isubN (pc1 := 23) (pc := 22) k_M_text_22 (by decide) (by omega) ?_
        | refine T_isub (pc1 := 23) (pc := 22) k_M_text_22 rfl ?_
        | refine T_retI (pc := 23) k_M_text_23 rfl (by first | rfl | decide | assumption) ?_
        | refine T_getR (pc1 := 28) (pc := 25) k_M_text_25 rfl f_M_9 rfl (by first | exact ga G (by decide) rfl | assumption) (by first | exact gr G (by decide) rfl | assumption) ?_
        | refine T_bipush (v := (nI 6)) (pc1 := 30) (pc := 28) k_M_text_28 rfl (by decide) ?_
        | refine T_ialdN (pc1 := 31) (pc := 30) k_M_text_30 rfl (by first | exact ga G (by decide) rfl | assumption) (by omega) (by omega) (by first | assumption | (simp (disch := omega) only [pI_eq, pI_row, pI_col, va_up_self, va_up_ne, ne_eq, not_false_eq_true, b102, h6] <;> rfl) | rfl) ?_
        | refine T_iald (pc1 := 31) (pc := 30) k_M_text_30 rfl (by first | exact ga G (by decide) rfl | assumption) (by assumption) ?_
        | refine T_istore_n (pc1 := 32) (pc := 31) k_M_text_31 rfl (Nat.le_of_ble_eq_true rfl) ?_
        | refine T_iload_n (pc1 := 33) (pc := 32) k_M_text_32 rfl rfl ?_
        | refine T_bipush (v := (nI 14)) (pc1 := 35) (pc := 33) k_M_text_33 rfl (by decide) ?_
        | (with_reducible refine T_icmp_neN (tgt := 41) (pc1 := 38) (pc := 35) k_M_text_35 (by decide) (by decide) (by omega) (by omega) (fun hc => ?_) (fun hc => ?_) <;> first | (exfalso; omega) | skip)
        | refine T_icmp_ne_t (tgt := 41) (pc := 35) k_M_text_35 rfl (by decide) ?_
        | refine T_icmp_ne_f (tgt := 41) (pc1 := 38) (pc := 35) k_M_text_35 rfl rfl (by decide) ?_
        | refine T_icmp_ne (tgt := 41) (pc1 := 38) (pc := 35) k_M_text_35 rfl rfl (fun hc => ?_) (fun hc => ?_)
        | refine T_retI (pc := 40) k_M_text_40 rfl (by first | rfl | decide | assumption) ?_)
      all_goals try (exfalso; omega)
      obtain ⟨f1, f2, f3⟩ := frm J1 eqx_rf
      exact kk J1 _ f1 b102 f2 f3 rfl
    · rw [if_pos ⟨hb, ht⟩, if_neg ht] at kk
      have loop : ∀ q k (J2 : IM), k + q = pM r.2.2 → eqx [102] J1 J2 → J2 102 = va_cpy (pC r.2.2) (va_up (va_up (va_up N (156 + 100 * tn + 0) (nI r.2.1)) (156 + 100 * tn + 1) (nI (pV r.2.2))) (156 + 100 * tn + 2) (nI (pM r.2.2))) 0 (156 + 100 * tn + 3) k → Rl 152 M_M_text 88 [some (.ref 101), some (.int (nI tn)), some (.int (nI (156 + 100 * tn))), some (.int (nI k))] [] g J2 K := by
        intro q
        induction q with
        | zero =>
          intro k J2 hk hJ2 h102
          have hk : k = pM r.2.2 := by omega
          subst hk
          have c19 : J2 101 19 = nI (pM r.2.2) := by rw [hJ2 101 (by decide)]; exact b19
          have c6 : J2 102 6 = nI tn := by rw [h102, pk_cpy_out (by omega), va_up_ne _ _ (by omega), va_up_ne _ _ (by omega), va_up_ne _ _ (by omega)]; exact h6
          repeat' (first
            | (refine T_iload_n (pc1 := 89) (pc := 88) k_M_text_88 rfl rfl ?_ <;> try ((first | refine T_aload_n (pc1 := 90) (pc := 89) k_M_text_89 rfl rfl ?_ | refine T_aload_nN (pc1 := 90) (pc := 89) k_M_text_89 rfl rfl ?_) <;> try (refine T_getV (pc1 := 93) (pc := 90) k_M_text_90 rfl f_M_232 rfl (by first | exact ga G (by decide) rfl | assumption) (by first | assumption | (simp (disch := omega) only [pI_eq, pI_row, pI_col, va_up_self, va_up_ne, ne_eq, not_false_eq_true, b102, h6] <;> rfl) | rfl) ?_ <;> try ((first | (with_reducible refine T_icmp_geN (tgt := 118) (pc1 := 96) (pc := 93) k_M_text_93 (by decide) (by decide) (by omega) (by omega) (fun hc => ?_) (fun hc => ?_) <;> first | (exfalso; omega) | skip) | refine T_icmp_ge_t (tgt := 118) (pc := 93) k_M_text_93 rfl (by decide) ?_ | refine T_icmp_ge_f (tgt := 118) (pc1 := 96) (pc := 93) k_M_text_93 rfl rfl (by decide) ?_ | refine T_icmp_ge (tgt := 118) (pc1 := 96) (pc := 93) k_M_text_93 rfl rfl (fun hc => ?_) (fun hc => ?_))))))
            | ((first | refine T_aload_n (pc1 := 97) (pc := 96) k_M_text_96 rfl rfl ?_ | refine T_aload_nN (pc1 := 97) (pc := 96) k_M_text_96 rfl rfl ?_) <;> try (refine T_getR (pc1 := 100) (pc := 97) k_M_text_97 rfl f_M_9 rfl (by first | exact ga G (by decide) rfl | assumption) (by first | exact gr G (by decide) rfl | assumption) ?_ <;> try (refine T_iload_n (pc1 := 101) (pc := 100) k_M_text_100 rfl rfl ?_ <;> try (refine T_iconst (v := (nI 3)) (pc1 := 102) (pc := 101) k_M_text_101 rfl (by decide) ?_ <;> try ((first | with_reducible refine T_iaddN (pc1 := 103) (pc := 102) k_M_text_102 (by decide) ?_ | refine T_iadd (pc1 := 103) (pc := 102) k_M_text_102 rfl ?_) <;> try (refine T_iload_n (pc1 := 104) (pc := 103) k_M_text_103 rfl rfl ?_ <;> try ((first | with_reducible refine T_iaddN (pc1 := 105) (pc := 104) k_M_text_104 (by decide) ?_ | refine T_iadd (pc1 := 105) (pc := 104) k_M_text_104 rfl ?_) <;> try ((first | refine T_aload_n (pc1 := 106) (pc := 105) k_M_text_105 rfl rfl ?_ | refine T_aload_nN (pc1 := 106) (pc := 105) k_M_text_105 rfl rfl ?_) <;> try (refine T_getR (pc1 := 109) (pc := 106) k_M_text_106 rfl f_M_52 rfl (by first | exact ga G (by decide) rfl | assumption) (by first | exact gr G (by decide) rfl | assumption) ?_ <;> try (refine T_iload_n (pc1 := 110) (pc := 109) k_M_text_109 rfl rfl ?_ <;> try ((first | refine T_ialdN (pc1 := 111) (pc := 110) k_M_text_110 rfl (by first | exact ga G (by decide) rfl | assumption) (by omega) (by omega) (by first | assumption | (simp (disch := omega) only [pI_eq, pI_row, pI_col, va_up_self, va_up_ne, ne_eq, not_false_eq_true, b102, h6] <;> rfl) | rfl) ?_ | refine T_iald (pc1 := 111) (pc := 110) k_M_text_110 rfl (by first | exact ga G (by decide) rfl | assumption) (by assumption) ?_) <;> try (refine T_iastN (pc1 := 112) (pc := 111) k_M_text_111 rfl (by first | exact ga G (by decide) rfl | assumption) (by omega) (by omega) ?_ <;> try ((first | refine T_iincN (b := 1) (pc1 := 115) (pc := 112) k_M_text_112 rfl rfl (by decide) ?_ | refine T_iinc (v := (nI 1)) (pc1 := 115) (pc := 112) k_M_text_112 rfl rfl (by decide) ?_) <;> try (refine T_goto (tgt := 88) (pc := 115) k_M_text_115 rfl ?_))))))))))))))
            | ((first | refine T_aload_n (pc1 := 119) (pc := 118) k_M_text_118 rfl rfl ?_ | refine T_aload_nN (pc1 := 119) (pc := 118) k_M_text_118 rfl rfl ?_) <;> try (refine T_getR (pc1 := 122) (pc := 119) k_M_text_119 rfl f_M_9 rfl (by first | exact ga G (by decide) rfl | assumption) (by first | exact gr G (by decide) rfl | assumption) ?_ <;> try (refine T_bipush (v := (nI 6)) (pc1 := 124) (pc := 122) k_M_text_122 rfl (by decide) ?_ <;> try (refine T_dup2 (pc1 := 125) (pc := 124) k_M_text_124 rfl rfl rfl ?_ <;> try ((first | refine T_ialdN (pc1 := 126) (pc := 125) k_M_text_125 rfl (by first | exact ga G (by decide) rfl | assumption) (by omega) (by omega) (by first | assumption | (simp (disch := omega) only [pI_eq, pI_row, pI_col, va_up_self, va_up_ne, ne_eq, not_false_eq_true, b102, h6] <;> rfl) | rfl) ?_ | refine T_iald (pc1 := 126) (pc := 125) k_M_text_125 rfl (by first | exact ga G (by decide) rfl | assumption) (by assumption) ?_) <;> try (refine T_iconst (v := (nI 1)) (pc1 := 127) (pc := 126) k_M_text_126 rfl (by decide) ?_ <;> try ((first | with_reducible refine T_iaddN (pc1 := 128) (pc := 127) k_M_text_127 (by decide) ?_ | refine T_iadd (pc1 := 128) (pc := 127) k_M_text_127 rfl ?_) <;> try (refine T_iastN (pc1 := 129) (pc := 128) k_M_text_128 rfl (by first | exact ga G (by decide) rfl | assumption) (by omega) (by omega) ?_ <;> try (refine T_iload_n (pc1 := 130) (pc := 129) k_M_text_129 rfl rfl ?_ <;> try (refine T_retI (pc := 130) k_M_text_130 rfl (by first | rfl | decide | assumption) ?_))))))))))
            | refine T_aload_n (pc1 := 90) (pc := 89) k_M_text_89 rfl rfl ?_
            | refine T_aload_nN (pc1 := 90) (pc := 89) k_M_text_89 rfl rfl ?_
            | refine T_getV (pc1 := 93) (pc := 90) k_M_text_90 rfl f_M_232 rfl (by first | exact ga G (by decide) rfl | assumption) (by first | assumption | (simp (disch := omega) only [pI_eq, pI_row, pI_col, va_up_self, va_up_ne, ne_eq, not_false_eq_true, b102, h6] <;> rfl) | rfl) ?_
            | (with_reducible refine T_icmp_geN (tgt := 118) (pc1 := 96) (pc := 93) k_M_text_93 (by decide) (by decide) (by omega) (by omega) (fun hc => ?_) (fun hc => ?_) <;> first | (exfalso; omega) | skip)
            | refine T_icmp_ge_t (tgt := 118) (pc := 93) k_M_text_93 rfl (by decide) ?_
            | refine T_icmp_ge_f (tgt := 118) (pc1 := 96) (pc := 93) k_M_text_93 rfl rfl (by decide) ?_
            | refine T_icmp_ge (tgt := 118) (pc1 := 96) (pc := 93) k_M_text_93 rfl rfl (fun hc => ?_) (fun hc => ?_)
            | refine T_getR (pc1 := 100) (pc := 97) k_M_text_97 rfl f_M_9 rfl (by first | exact ga G (by decide) rfl | assumption) (by first | exact gr G (by decide) rfl | assumption) ?_
            | refine T_iload_n (pc1 := 101) (pc := 100) k_M_text_100 rfl rfl ?_
            | refine T_iconst (v := (nI 3)) (pc1 := 102) (pc := 101) k_M_text_101 rfl (by decide) ?_
            | with_reducible refine T_iaddN (pc1 := 103) (pc := 102) k_M_text_102 (by decide) ?_
            | refine T_iadd (pc1 := 103) (pc := 102) k_M_text_102 rfl ?_
            | refine T_iload_n (pc1 := 104) (pc := 103) k_M_text_103 rfl rfl ?_
            | with_reducible refine T_iaddN (pc1 := 105) (pc := 104) k_M_text_104 (by decide) ?_
            | refine T_iadd (pc1 := 105) (pc := 104) k_M_text_104 rfl ?_
            | refine T_aload_n (pc1 := 106) (pc := 105) k_M_text_105 rfl rfl ?_
            | refine T_aload_nN (pc1 := 106) (pc := 105) k_M_text_105 rfl rfl ?_
            | refine T_getR (pc1 := 109) (pc := 106) k_M_text_106 rfl f_M_52 rfl (by first | exact ga G (by decide) rfl | assumption) (by first | exact gr G (by decide) rfl | assumption) ?_
            | refine T_iload_n (pc1 := 110) (pc := 109) k_M_text_109 rfl rfl ?_
            | refine T_ialdN (pc1 := 111) (pc := 110) k_M_text_110 rfl (by first | exact ga G (by decide) rfl | assumption) (by omega) (by omega) (by first | assumption | (simp (disch := omega) only [pI_eq, pI_row, pI_col, va_up_self, va_up_ne, ne_eq, not_false_eq_true, b102, h6] <;> rfl) | rfl) ?_
            | refine T_iald (pc1 := 111) (pc := 110) k_M_text_110 rfl (by first | exact ga G (by decide) rfl | assumption) (by assumption) ?_
            | refine T_iastN (pc1 := 112) (pc := 111) k_M_text_111 rfl (by first | exact ga G (by decide) rfl | assumption) (by omega) (by omega) ?_
            | refine T_iincN (b := 1) (pc1 := 115) (pc := 112) k_M_text_112 rfl rfl (by decide) ?_
            | refine T_iinc (v := (nI 1)) (pc1 := 115) (pc := 112) k_M_text_112 rfl rfl (by decide) ?_
            | refine T_goto (tgt := 88) (pc := 115) k_M_text_115 rfl ?_
            | refine T_getR (pc1 := 122) (pc := 119) k_M_text_119 rfl f_M_9 rfl (by first | exact ga G (by decide) rfl | assumption) (by first | exact gr G (by decide) rfl | assumption) ?_
            | refine T_bipush (v := (nI 6)) (pc1 := 124) (pc := 122) k_M_text_122 rfl (by decide) ?_
            | refine T_dup2 (pc1 := 125) (pc := 124) k_M_text_124 rfl rfl rfl ?_
            | refine T_ialdN (pc1 := 126) (pc := 125) k_M_text_125 rfl (by first | exact ga G (by decide) rfl | assumption) (by omega) (by omega) (by first | assumption | (simp (disch := omega) only [pI_eq, pI_row, pI_col, va_up_self, va_up_ne, ne_eq, not_false_eq_true, b102, h6] <;> rfl) | rfl) ?_
            | refine T_iald (pc1 := 126) (pc := 125) k_M_text_125 rfl (by first | exact ga G (by decide) rfl | assumption) (by assumption) ?_
            | refine T_iconst (v := (nI 1)) (pc1 := 127) (pc := 126) k_M_text_126 rfl (by decide) ?_
            | with_reducible refine T_iaddN (pc1 := 128) (pc := 127) k_M_text_127 (by decide) ?_
            | refine T_iadd (pc1 := 128) (pc := 127) k_M_text_127 rfl ?_
            | refine T_iastN (pc1 := 129) (pc := 128) k_M_text_128 rfl (by first | exact ga G (by decide) rfl | assumption) (by omega) (by omega) ?_
            | refine T_iload_n (pc1 := 130) (pc := 129) k_M_text_129 rfl rfl ?_
            | refine T_retI (pc := 130) k_M_text_130 rfl (by first | rfl | decide | assumption) ?_)
          refine kk _ _ ?_ (by rw [upI h102]; rfl) ?_ ?_ rfl
          · exact (frm _ (eqx_pI hJ2 _ (by decide))).1
          · exact (frm _ (eqx_pI hJ2 _ (by decide))).2.1
          · exact (frm _ (eqx_pI hJ2 _ (by decide))).2.2
        | succ q ih =>
          intro k J2 hk hJ2 h102
          have c19 : J2 101 19 = nI (pM r.2.2) := by rw [hJ2 101 (by decide)]; exact b19
          have c111 : J2 111 k = pC r.2.2 k := by rw [hJ2 111 (by decide), b111]
          refine T_iload_n (pc1 := 89) (pc := 88) k_M_text_88 rfl rfl ?_
          repeat' (first
            | ((first | refine T_aload_n (pc1 := 90) (pc := 89) k_M_text_89 rfl rfl ?_ | refine T_aload_nN (pc1 := 90) (pc := 89) k_M_text_89 rfl rfl ?_) <;> try (refine T_getV (pc1 := 93) (pc := 90) k_M_text_90 rfl f_M_232 rfl (by first | exact ga G (by decide) rfl | assumption) (by first | assumption | (simp (disch := omega) only [pI_eq, pI_row, pI_col, va_up_self, va_up_ne, ne_eq, not_false_eq_true, b102, h6] <;> rfl) | rfl) ?_ <;> try ((first | (with_reducible refine T_icmp_geN (tgt := 118) (pc1 := 96) (pc := 93) k_M_text_93 (by decide) (by decide) (by omega) (by omega) (fun hc => ?_) (fun hc => ?_) <;> first | (exfalso; omega) | skip) | refine T_icmp_ge_t (tgt := 118) (pc := 93) k_M_text_93 rfl (by decide) ?_ | refine T_icmp_ge_f (tgt := 118) (pc1 := 96) (pc := 93) k_M_text_93 rfl rfl (by decide) ?_ | refine T_icmp_ge (tgt := 118) (pc1 := 96) (pc := 93) k_M_text_93 rfl rfl (fun hc => ?_) (fun hc => ?_)))))
            | ((first | refine T_aload_n (pc1 := 97) (pc := 96) k_M_text_96 rfl rfl ?_ | refine T_aload_nN (pc1 := 97) (pc := 96) k_M_text_96 rfl rfl ?_) <;> try (refine T_getR (pc1 := 100) (pc := 97) k_M_text_97 rfl f_M_9 rfl (by first | exact ga G (by decide) rfl | assumption) (by first | exact gr G (by decide) rfl | assumption) ?_ <;> try (refine T_iload_n (pc1 := 101) (pc := 100) k_M_text_100 rfl rfl ?_ <;> try (refine T_iconst (v := (nI 3)) (pc1 := 102) (pc := 101) k_M_text_101 rfl (by decide) ?_ <;> try ((first | with_reducible refine T_iaddN (pc1 := 103) (pc := 102) k_M_text_102 (by decide) ?_ | refine T_iadd (pc1 := 103) (pc := 102) k_M_text_102 rfl ?_) <;> try (refine T_iload_n (pc1 := 104) (pc := 103) k_M_text_103 rfl rfl ?_ <;> try ((first | with_reducible refine T_iaddN (pc1 := 105) (pc := 104) k_M_text_104 (by decide) ?_ | refine T_iadd (pc1 := 105) (pc := 104) k_M_text_104 rfl ?_) <;> try ((first | refine T_aload_n (pc1 := 106) (pc := 105) k_M_text_105 rfl rfl ?_ | refine T_aload_nN (pc1 := 106) (pc := 105) k_M_text_105 rfl rfl ?_) <;> try (refine T_getR (pc1 := 109) (pc := 106) k_M_text_106 rfl f_M_52 rfl (by first | exact ga G (by decide) rfl | assumption) (by first | exact gr G (by decide) rfl | assumption) ?_ <;> try (refine T_iload_n (pc1 := 110) (pc := 109) k_M_text_109 rfl rfl ?_ <;> try ((first | refine T_ialdN (pc1 := 111) (pc := 110) k_M_text_110 rfl (by first | exact ga G (by decide) rfl | assumption) (by omega) (by omega) (by first | assumption | (simp (disch := omega) only [pI_eq, pI_row, pI_col, va_up_self, va_up_ne, ne_eq, not_false_eq_true, b102, h6] <;> rfl) | rfl) ?_ | refine T_iald (pc1 := 111) (pc := 110) k_M_text_110 rfl (by first | exact ga G (by decide) rfl | assumption) (by assumption) ?_) <;> try (refine T_iastN (pc1 := 112) (pc := 111) k_M_text_111 rfl (by first | exact ga G (by decide) rfl | assumption) (by omega) (by omega) ?_ <;> try ((first | refine T_iincN (b := 1) (pc1 := 115) (pc := 112) k_M_text_112 rfl rfl (by decide) ?_ | refine T_iinc (v := (nI 1)) (pc1 := 115) (pc := 112) k_M_text_112 rfl rfl (by decide) ?_) <;> try (refine T_goto (tgt := 88) (pc := 115) k_M_text_115 rfl ?_))))))))))))))
            | refine T_getV (pc1 := 93) (pc := 90) k_M_text_90 rfl f_M_232 rfl (by first | exact ga G (by decide) rfl | assumption) (by first | assumption | (simp (disch := omega) only [pI_eq, pI_row, pI_col, va_up_self, va_up_ne, ne_eq, not_false_eq_true, b102, h6] <;> rfl) | rfl) ?_
            | (with_reducible refine T_icmp_geN (tgt := 118) (pc1 := 96) (pc := 93) k_M_text_93 (by decide) (by decide) (by omega) (by omega) (fun hc => ?_) (fun hc => ?_) <;> first | (exfalso; omega) | skip)
            | refine T_icmp_ge_t (tgt := 118) (pc := 93) k_M_text_93 rfl (by decide) ?_
            | refine T_icmp_ge_f (tgt := 118) (pc1 := 96) (pc := 93) k_M_text_93 rfl rfl (by decide) ?_
            | refine T_icmp_ge (tgt := 118) (pc1 := 96) (pc := 93) k_M_text_93 rfl rfl (fun hc => ?_) (fun hc => ?_)
            | refine T_getR (pc1 := 100) (pc := 97) k_M_text_97 rfl f_M_9 rfl (by first | exact ga G (by decide) rfl | assumption) (by first | exact gr G (by decide) rfl | assumption) ?_
            | refine T_iload_n (pc1 := 101) (pc := 100) k_M_text_100 rfl rfl ?_
            | refine T_iconst (v := (nI 3)) (pc1 := 102) (pc := 101) k_M_text_101 rfl (by decide) ?_
            | with_reducible refine T_iaddN (pc1 := 103) (pc := 102) k_M_text_102 (by decide) ?_
            | refine T_iadd (pc1 := 103) (pc := 102) k_M_text_102 rfl ?_
            | refine T_iload_n (pc1 := 104) (pc := 103) k_M_text_103 rfl rfl ?_
            | with_reducible refine T_iaddN (pc1 := 105) (pc := 104) k_M_text_104 (by decide) ?_
            | refine T_iadd (pc1 := 105) (pc := 104) k_M_text_104 rfl ?_
            | refine T_aload_n (pc1 := 106) (pc := 105) k_M_text_105 rfl rfl ?_
            | refine T_aload_nN (pc1 := 106) (pc := 105) k_M_text_105 rfl rfl ?_
            | refine T_getR (pc1 := 109) (pc := 106) k_M_text_106 rfl f_M_52 rfl (by first | exact ga G (by decide) rfl | assumption) (by first | exact gr G (by decide) rfl | assumption) ?_
            | refine T_iload_n (pc1 := 110) (pc := 109) k_M_text_109 rfl rfl ?_
            | refine T_ialdN (pc1 := 111) (pc := 110) k_M_text_110 rfl (by first | exact ga G (by decide) rfl | assumption) (by omega) (by omega) (by first | assumption | (simp (disch := omega) only [pI_eq, pI_row, pI_col, va_up_self, va_up_ne, ne_eq, not_false_eq_true, b102, h6] <;> rfl) | rfl) ?_
            | refine T_iald (pc1 := 111) (pc := 110) k_M_text_110 rfl (by first | exact ga G (by decide) rfl | assumption) (by assumption) ?_
            | refine T_iastN (pc1 := 112) (pc := 111) k_M_text_111 rfl (by first | exact ga G (by decide) rfl | assumption) (by omega) (by omega) ?_
            | refine T_iincN (b := 1) (pc1 := 115) (pc := 112) k_M_text_112 rfl rfl (by decide) ?_
            | refine T_iinc (v := (nI 1)) (pc1 := 115) (pc := 112) k_M_text_112 rfl rfl (by decide) ?_
            | refine T_goto (tgt := 88) (pc := 115) k_M_text_115 rfl ?_)
          refine ih (k + 1) _ (by omega) (eqx_pI hJ2 _ (by decide)) ?_
          have e := vcpy_s (pC r.2.2) (va_up (va_up (va_up N (156 + 100 * tn + 0) (nI r.2.1)) (156 + 100 * tn + 1) (nI (pV r.2.2))) (156 + 100 * tn + 2) (nI (pM r.2.2))) 0 (156 + 100 * tn + 3) k
          rw [Nat.zero_add] at e
          rw [upI h102, e]
      have g6 : J1 102 6 = nI tn := by rw [b102]; exact h6
      repeat' (first
        | ((first | refine T_aload_n (pc1 := 10) (pc := 9) k_M_text_9 rfl rfl ?_ | refine T_aload_nN (pc1 := 10) (pc := 9) k_M_text_9 rfl rfl ?_) <;> try (refine T_getV (pc1 := 13) (pc := 10) k_M_text_10 rfl f_M_225 rfl (by first | exact ga G (by decide) rfl | assumption) (by first | assumption | (simp (disch := omega) only [pI_eq, pI_row, pI_col, va_up_self, va_up_ne, ne_eq, not_false_eq_true, b15, b18, b19] <;> rfl) | rfl) ?_ <;> try ((first | (with_reducible refine T_if_eqN (tgt := 24) (pc1 := 16) (pc := 13) k_M_text_13 (by decide) (by decide) (by omega) (fun hc => ?_) (fun hc => ?_) <;> first | (exfalso; omega) | skip) | refine T_if_eq_t (tgt := 24) (pc := 13) k_M_text_13 rfl (by decide) ?_ | refine T_if_eq_f (tgt := 24) (pc1 := 16) (pc := 13) k_M_text_13 rfl rfl (by decide) ?_ | refine T_if_eq (tgt := 24) (pc1 := 16) (pc := 13) k_M_text_13 rfl rfl (fun hc => ?_) (fun hc => ?_)))))
        | (refine T_bipush (v := (-100)) (pc1 := 18) (pc := 16) k_M_text_16 rfl (by decide) ?_ <;> try ((first | refine T_aload_n (pc1 := 19) (pc := 18) k_M_text_18 rfl rfl ?_ | refine T_aload_nN (pc1 := 19) (pc := 18) k_M_text_18 rfl rfl ?_) <;> try (refine T_getV (pc1 := 22) (pc := 19) k_M_text_19 rfl f_M_213 rfl (by first | exact ga G (by decide) rfl | assumption) (by first | assumption | (simp (disch := omega) only [pI_eq, pI_row, pI_col, va_up_self, va_up_ne, ne_eq, not_false_eq_true, b15, b18, b19] <;> rfl) | rfl) ?_ <;> try ((first | with_reducible refine T_isubN (pc1 := 23) (pc := 22) k_M_text_22 (by decide) (by omega) ?_ | refine T_isub (pc1 := 23) (pc := 22) k_M_text_22 rfl ?_) <;> try (refine T_retI (pc := 23) k_M_text_23 rfl (by first | rfl | decide | assumption) ?_)))))
        | ((first | refine T_aload_n (pc1 := 25) (pc := 24) k_M_text_24 rfl rfl ?_ | refine T_aload_nN (pc1 := 25) (pc := 24) k_M_text_24 rfl rfl ?_) <;> try (refine T_getR (pc1 := 28) (pc := 25) k_M_text_25 rfl f_M_9 rfl (by first | exact ga G (by decide) rfl | assumption) (by first | exact gr G (by decide) rfl | assumption) ?_ <;> try (refine T_bipush (v := (nI 6)) (pc1 := 30) (pc := 28) k_M_text_28 rfl (by decide) ?_ <;> try ((first | refine T_ialdN (pc1 := 31) (pc := 30) k_M_text_30 rfl (by first | exact ga G (by decide) rfl | assumption) (by omega) (by omega) (by first | assumption | (simp (disch := omega) only [pI_eq, pI_row, pI_col, va_up_self, va_up_ne, ne_eq, not_false_eq_true, b15, b18, b19] <;> rfl) | rfl) ?_ | refine T_iald (pc1 := 31) (pc := 30) k_M_text_30 rfl (by first | exact ga G (by decide) rfl | assumption) (by assumption) ?_) <;> try (refine T_istore_n (pc1 := 32) (pc := 31) k_M_text_31 rfl (Nat.le_of_ble_eq_true rfl) ?_ <;> try (refine T_iload_n (pc1 := 33) (pc := 32) k_M_text_32 rfl rfl ?_ <;> try (refine T_bipush (v := (nI 14)) (pc1 := 35) (pc := 33) k_M_text_33 rfl (by decide) ?_ <;> try ((first | (with_reducible refine T_icmp_neN (tgt := 41) (pc1 := 38) (pc := 35) k_M_text_35 (by decide) (by decide) (by omega) (by omega) (fun hc => ?_) (fun hc => ?_) <;> first | (exfalso; omega) | skip) | refine T_icmp_ne_t (tgt := 41) (pc := 35) k_M_text_35 rfl (by decide) ?_ | refine T_icmp_ne_f (tgt := 41) (pc1 := 38) (pc := 35) k_M_text_35 rfl rfl (by decide) ?_ | refine T_icmp_ne (tgt := 41) (pc1 := 38) (pc := 35) k_M_text_35 rfl rfl (fun hc => ?_) (fun hc => ?_))))))))))
        | (refine T_ldc (v := (-1000000003)) (pc1 := 40) (pc := 38) k_M_text_38 rfl c_M_112 ?_ <;> try (refine T_retI (pc := 40) k_M_text_40 rfl (by first | rfl | decide | assumption) ?_))
        | (refine T_sipush (v := (nI 156)) (pc1 := 44) (pc := 41) k_M_text_41 rfl (by decide) ?_ <;> try (refine T_bipush (v := (nI 100)) (pc1 := 46) (pc := 44) k_M_text_44 rfl (by decide) ?_ <;> try (refine T_iload_n (pc1 := 47) (pc := 46) k_M_text_46 rfl rfl ?_ <;> try ((first | with_reducible refine T_imulN (pc1 := 48) (pc := 47) k_M_text_47 (by decide) ?_ | refine T_imul (pc1 := 48) (pc := 47) k_M_text_47 rfl ?_) <;> try ((first | with_reducible refine T_iaddN (pc1 := 49) (pc := 48) k_M_text_48 (by decide) ?_ | refine T_iadd (pc1 := 49) (pc := 48) k_M_text_48 rfl ?_) <;> try (refine T_istore_n (pc1 := 50) (pc := 49) k_M_text_49 rfl (Nat.le_of_ble_eq_true rfl) ?_ <;> try ((first | refine T_aload_n (pc1 := 51) (pc := 50) k_M_text_50 rfl rfl ?_ | refine T_aload_nN (pc1 := 51) (pc := 50) k_M_text_50 rfl rfl ?_) <;> try (refine T_getR (pc1 := 54) (pc := 51) k_M_text_51 rfl f_M_9 rfl (by first | exact ga G (by decide) rfl | assumption) (by first | exact gr G (by decide) rfl | assumption) ?_ <;> try (refine T_iload_n (pc1 := 55) (pc := 54) k_M_text_54 rfl rfl ?_ <;> try (refine T_iconst (v := (nI 0)) (pc1 := 56) (pc := 55) k_M_text_55 rfl (by decide) ?_ <;> try ((first | with_reducible refine T_iaddN (pc1 := 57) (pc := 56) k_M_text_56 (by decide) ?_ | refine T_iadd (pc1 := 57) (pc := 56) k_M_text_56 rfl ?_) <;> try ((first | refine T_aload_n (pc1 := 58) (pc := 57) k_M_text_57 rfl rfl ?_ | refine T_aload_nN (pc1 := 58) (pc := 57) k_M_text_57 rfl rfl ?_) <;> try (refine T_getV (pc1 := 61) (pc := 58) k_M_text_58 rfl f_M_268 rfl (by first | exact ga G (by decide) rfl | assumption) (by first | assumption | (simp (disch := omega) only [pI_eq, pI_row, pI_col, va_up_self, va_up_ne, ne_eq, not_false_eq_true, b15, b18, b19] <;> rfl) | rfl) ?_ <;> try (refine T_iastN (pc1 := 62) (pc := 61) k_M_text_61 rfl (by first | exact ga G (by decide) rfl | assumption) (by omega) (by omega) ?_ <;> try ((first | refine T_aload_n (pc1 := 63) (pc := 62) k_M_text_62 rfl rfl ?_ | refine T_aload_nN (pc1 := 63) (pc := 62) k_M_text_62 rfl rfl ?_) <;> try (refine T_getR (pc1 := 66) (pc := 63) k_M_text_63 rfl f_M_9 rfl (by first | exact ga G (by decide) rfl | assumption) (by first | exact gr G (by decide) rfl | assumption) ?_ <;> try (refine T_iload_n (pc1 := 67) (pc := 66) k_M_text_66 rfl rfl ?_ <;> try (refine T_iconst (v := (nI 1)) (pc1 := 68) (pc := 67) k_M_text_67 rfl (by decide) ?_ <;> try ((first | with_reducible refine T_iaddN (pc1 := 69) (pc := 68) k_M_text_68 (by decide) ?_ | refine T_iadd (pc1 := 69) (pc := 68) k_M_text_68 rfl ?_) <;> try ((first | refine T_aload_n (pc1 := 70) (pc := 69) k_M_text_69 rfl rfl ?_ | refine T_aload_nN (pc1 := 70) (pc := 69) k_M_text_69 rfl rfl ?_) <;> try (refine T_getV (pc1 := 73) (pc := 70) k_M_text_70 rfl f_M_271 rfl (by first | exact ga G (by decide) rfl | assumption) (by first | assumption | (simp (disch := omega) only [pI_eq, pI_row, pI_col, va_up_self, va_up_ne, ne_eq, not_false_eq_true, b15, b18, b19] <;> rfl) | rfl) ?_ <;> try (refine T_iastN (pc1 := 74) (pc := 73) k_M_text_73 rfl (by first | exact ga G (by decide) rfl | assumption) (by omega) (by omega) ?_ <;> try ((first | refine T_aload_n (pc1 := 75) (pc := 74) k_M_text_74 rfl rfl ?_ | refine T_aload_nN (pc1 := 75) (pc := 74) k_M_text_74 rfl rfl ?_) <;> try (refine T_getR (pc1 := 78) (pc := 75) k_M_text_75 rfl f_M_9 rfl (by first | exact ga G (by decide) rfl | assumption) (by first | exact gr G (by decide) rfl | assumption) ?_ <;> try (refine T_iload_n (pc1 := 79) (pc := 78) k_M_text_78 rfl rfl ?_ <;> try (refine T_iconst (v := (nI 2)) (pc1 := 80) (pc := 79) k_M_text_79 rfl (by decide) ?_ <;> try ((first | with_reducible refine T_iaddN (pc1 := 81) (pc := 80) k_M_text_80 (by decide) ?_ | refine T_iadd (pc1 := 81) (pc := 80) k_M_text_80 rfl ?_) <;> try ((first | refine T_aload_n (pc1 := 82) (pc := 81) k_M_text_81 rfl rfl ?_ | refine T_aload_nN (pc1 := 82) (pc := 81) k_M_text_81 rfl rfl ?_) <;> try (refine T_getV (pc1 := 85) (pc := 82) k_M_text_82 rfl f_M_232 rfl (by first | exact ga G (by decide) rfl | assumption) (by first | assumption | (simp (disch := omega) only [pI_eq, pI_row, pI_col, va_up_self, va_up_ne, ne_eq, not_false_eq_true, b15, b18, b19] <;> rfl) | rfl) ?_ <;> try (refine T_iastN (pc1 := 86) (pc := 85) k_M_text_85 rfl (by first | exact ga G (by decide) rfl | assumption) (by omega) (by omega) ?_ <;> try (refine T_iconst (v := (nI 0)) (pc1 := 87) (pc := 86) k_M_text_86 rfl (by decide) ?_ <;> try (refine T_istore_n (pc1 := 88) (pc := 87) k_M_text_87 rfl (Nat.le_of_ble_eq_true rfl) ?_))))))))))))))))))))))))))))))))
        | refine T_getV (pc1 := 13) (pc := 10) k_M_text_10 rfl f_M_225 rfl (by first | exact ga G (by decide) rfl | assumption) (by first | assumption | (simp (disch := omega) only [pI_eq, pI_row, pI_col, va_up_self, va_up_ne, ne_eq, not_false_eq_true, b15, b18, b19] <;> rfl) | rfl) ?_
        | (with_reducible refine T_if_eqN (tgt := 24) (pc1 := 16) (pc := 13) k_M_text_13 (by decide) (by decide) (by omega) (fun hc => ?_) (fun hc => ?_) <;> first | (exfalso; omega) | skip)
        | refine T_if_eq_t (tgt := 24) (pc := 13) k_M_text_13 rfl (by decide) ?_
        | refine T_if_eq_f (tgt := 24) (pc1 := 16) (pc := 13) k_M_text_13 rfl rfl (by decide) ?_
        | refine T_if_eq (tgt := 24) (pc1 := 16) (pc := 13) k_M_text_13 rfl rfl (fun hc => ?_) (fun hc => ?_)
        | refine T_aload_n (pc1 := 19) (pc := 18) k_M_text_18 rfl rfl ?_
        | refine T_aload_nN (pc1 := 19) (pc := 18) k_M_text_18 rfl rfl ?_
        | refine T_getV (pc1 := 22) (pc := 19) k_M_text_19 rfl f_M_213 rfl (by first | exact ga G (by decide) rfl | assumption) (by first | assumption | (simp (disch := omega) only [pI_eq, pI_row, pI_col, va_up_self, va_up_ne, ne_eq, not_false_eq_true, b15, b18, b19] <;> rfl) | rfl) ?_
        | with_reducible refine T_isubN (pc1 := 23) (pc := 22) k_M_text_22 (by decide) (by omega) ?_
        | refine T_isub (pc1 := 23) (pc := 22) k_M_text_22 rfl ?_
        | refine T_retI (pc := 23) k_M_text_23 rfl (by first | rfl | decide | assumption) ?_
        | refine T_getR (pc1 := 28) (pc := 25) k_M_text_25 rfl f_M_9 rfl (by first | exact ga G (by decide) rfl | assumption) (by first | exact gr G (by decide) rfl | assumption) ?_
        | refine T_bipush (v := (nI 6)) (pc1 := 30) (pc := 28) k_M_text_28 rfl (by decide) ?_
        | refine T_ialdN (pc1 := 31) (pc := 30) k_M_text_30 rfl (by first | exact ga G (by decide) rfl | assumption) (by omega) (by omega) (by first | assumption | (simp (disch := omega) only [pI_eq, pI_row, pI_col, va_up_self, va_up_ne, ne_eq, not_false_eq_true, b15, b18, b19] <;> rfl) | rfl) ?_
        | refine T_iald (pc1 := 31) (pc := 30) k_M_text_30 rfl (by first | exact ga G (by decide) rfl | assumption) (by assumption) ?_
        | refine T_istore_n (pc1 := 32) (pc := 31) k_M_text_31 rfl (Nat.le_of_ble_eq_true rfl) ?_
        | refine T_iload_n (pc1 := 33) (pc := 32) k_M_text_32 rfl rfl ?_
        | refine T_bipush (v := (nI 14)) (pc1 := 35) (pc := 33) k_M_text_33 rfl (by decide) ?_
        | (with_reducible refine T_icmp_neN (tgt := 41) (pc1 := 38) (pc := 35) k_M_text_35 (by decide) (by decide) (by omega) (by omega) (fun hc => ?_) (fun hc => ?_) <;> first | (exfalso; omega) | skip)
        | refine T_icmp_ne_t (tgt := 41) (pc := 35) k_M_text_35 rfl (by decide) ?_
        | refine T_icmp_ne_f (tgt := 41) (pc1 := 38) (pc := 35) k_M_text_35 rfl rfl (by decide) ?_
        | refine T_icmp_ne (tgt := 41) (pc1 := 38) (pc := 35) k_M_text_35 rfl rfl (fun hc => ?_) (fun hc => ?_)
        | refine T_retI (pc := 40) k_M_text_40 rfl (by first | rfl | decide | assumption) ?_
        | refine T_bipush (v := (nI 100)) (pc1 := 46) (pc := 44) k_M_text_44 rfl (by decide) ?_
        | refine T_iload_n (pc1 := 47) (pc := 46) k_M_text_46 rfl rfl ?_
        | with_reducible refine T_imulN (pc1 := 48) (pc := 47) k_M_text_47 (by decide) ?_
        | refine T_imul (pc1 := 48) (pc := 47) k_M_text_47 rfl ?_
        | with_reducible refine T_iaddN (pc1 := 49) (pc := 48) k_M_text_48 (by decide) ?_
        | refine T_iadd (pc1 := 49) (pc := 48) k_M_text_48 rfl ?_
        | refine T_istore_n (pc1 := 50) (pc := 49) k_M_text_49 rfl (Nat.le_of_ble_eq_true rfl) ?_
        | refine T_aload_n (pc1 := 51) (pc := 50) k_M_text_50 rfl rfl ?_
        | refine T_aload_nN (pc1 := 51) (pc := 50) k_M_text_50 rfl rfl ?_
        | refine T_getR (pc1 := 54) (pc := 51) k_M_text_51 rfl f_M_9 rfl (by first | exact ga G (by decide) rfl | assumption) (by first | exact gr G (by decide) rfl | assumption) ?_
        | refine T_iload_n (pc1 := 55) (pc := 54) k_M_text_54 rfl rfl ?_
        | refine T_iconst (v := (nI 0)) (pc1 := 56) (pc := 55) k_M_text_55 rfl (by decide) ?_
        | with_reducible refine T_iaddN (pc1 := 57) (pc := 56) k_M_text_56 (by decide) ?_
        | refine T_iadd (pc1 := 57) (pc := 56) k_M_text_56 rfl ?_
        | refine T_aload_n (pc1 := 58) (pc := 57) k_M_text_57 rfl rfl ?_
        | refine T_aload_nN (pc1 := 58) (pc := 57) k_M_text_57 rfl rfl ?_
        | refine T_getV (pc1 := 61) (pc := 58) k_M_text_58 rfl f_M_268 rfl (by first | exact ga G (by decide) rfl | assumption) (by first | assumption | (simp (disch := omega) only [pI_eq, pI_row, pI_col, va_up_self, va_up_ne, ne_eq, not_false_eq_true, b15, b18, b19] <;> rfl) | rfl) ?_
        | refine T_iastN (pc1 := 62) (pc := 61) k_M_text_61 rfl (by first | exact ga G (by decide) rfl | assumption) (by omega) (by omega) ?_
        | refine T_aload_n (pc1 := 63) (pc := 62) k_M_text_62 rfl rfl ?_
        | refine T_aload_nN (pc1 := 63) (pc := 62) k_M_text_62 rfl rfl ?_
        | refine T_getR (pc1 := 66) (pc := 63) k_M_text_63 rfl f_M_9 rfl (by first | exact ga G (by decide) rfl | assumption) (by first | exact gr G (by decide) rfl | assumption) ?_
        | refine T_iload_n (pc1 := 67) (pc := 66) k_M_text_66 rfl rfl ?_
        | refine T_iconst (v := (nI 1)) (pc1 := 68) (pc := 67) k_M_text_67 rfl (by decide) ?_
        | with_reducible refine T_iaddN (pc1 := 69) (pc := 68) k_M_text_68 (by decide) ?_
        | refine T_iadd (pc1 := 69) (pc := 68) k_M_text_68 rfl ?_
        | refine T_aload_n (pc1 := 70) (pc := 69) k_M_text_69 rfl rfl ?_
        | refine T_aload_nN (pc1 := 70) (pc := 69) k_M_text_69 rfl rfl ?_
        | refine T_getV (pc1 := 73) (pc := 70) k_M_text_70 rfl f_M_271 rfl (by first | exact ga G (by decide) rfl | assumption) (by first | assumption | (simp (disch := omega) only [pI_eq, pI_row, pI_col, va_up_self, va_up_ne, ne_eq, not_false_eq_true, b15, b18, b19] <;> rfl) | rfl) ?_
        | refine T_iastN (pc1 := 74) (pc := 73) k_M_text_73 rfl (by first | exact ga G (by decide) rfl | assumption) (by omega) (by omega) ?_
        | refine T_aload_n (pc1 := 75) (pc := 74) k_M_text_74 rfl rfl ?_
        | refine T_aload_nN (pc1 := 75) (pc := 74) k_M_text_74 rfl rfl ?_
        | refine T_getR (pc1 := 78) (pc := 75) k_M_text_75 rfl f_M_9 rfl (by first | exact ga G (by decide) rfl | assumption) (by first | exact gr G (by decide) rfl | assumption) ?_
        | refine T_iload_n (pc1 := 79) (pc := 78) k_M_text_78 rfl rfl ?_
        | refine T_iconst (v := (nI 2)) (pc1 := 80) (pc := 79) k_M_text_79 rfl (by decide) ?_
        | with_reducible refine T_iaddN (pc1 := 81) (pc := 80) k_M_text_80 (by decide) ?_
        | refine T_iadd (pc1 := 81) (pc := 80) k_M_text_80 rfl ?_
        | refine T_aload_n (pc1 := 82) (pc := 81) k_M_text_81 rfl rfl ?_
        | refine T_aload_nN (pc1 := 82) (pc := 81) k_M_text_81 rfl rfl ?_
        | refine T_getV (pc1 := 85) (pc := 82) k_M_text_82 rfl f_M_232 rfl (by first | exact ga G (by decide) rfl | assumption) (by first | assumption | (simp (disch := omega) only [pI_eq, pI_row, pI_col, va_up_self, va_up_ne, ne_eq, not_false_eq_true, b15, b18, b19] <;> rfl) | rfl) ?_
        | refine T_iastN (pc1 := 86) (pc := 85) k_M_text_85 rfl (by first | exact ga G (by decide) rfl | assumption) (by omega) (by omega) ?_
        | refine T_iconst (v := (nI 0)) (pc1 := 87) (pc := 86) k_M_text_86 rfl (by decide) ?_
        | refine T_istore_n (pc1 := 88) (pc := 87) k_M_text_87 rfl (Nat.le_of_ble_eq_true rfl) ?_)
      all_goals try (exfalso; omega)
      refine loop (pM r.2.2) 0 _ (by omega) (eqx_pI (eqx_pI (eqx_pI eqx_rf _ (by decide)) _ (by decide)) _ (by decide)) ?_
      rw [vcpy_0]
      exact upI (upI (upI b102))
  · rw [hrd] at hb j11
    rw [if_pos hb, if_neg (fun q => by rw [hb] at q; exact absurd q.1 (by decide))] at kk
    have b14 : pI J 101 8 (nI 0) 101 14 = nI 1 := (pI_col (by decide)).trans j14
    have b11 : pI J 101 8 (nI 0) 101 11 = nI (pS r.2.2) := (pI_col (by decide)).trans j11
    repeat' (first
      | ((first | refine T_aload_n (pc1 := 5) (pc := 4) k_M_text_4 rfl rfl ?_ | refine T_aload_nN (pc1 := 5) (pc := 4) k_M_text_4 rfl rfl ?_) <;> try (refine T_iconst (v := (nI 0)) (pc1 := 6) (pc := 5) k_M_text_5 rfl (by decide) ?_ <;> try (refine T_putI (pc1 := 9) (pc := 6) k_M_text_6 rfl f_M_200 rfl (by first | exact ga G (by decide) rfl | assumption) (by first | rfl | decide | assumption) (by first | rfl | decide | assumption) ?_ <;> try ((first | refine T_aload_n (pc1 := 10) (pc := 9) k_M_text_9 rfl rfl ?_ | refine T_aload_nN (pc1 := 10) (pc := 9) k_M_text_9 rfl rfl ?_) <;> try (refine T_getV (pc1 := 13) (pc := 10) k_M_text_10 rfl f_M_225 rfl (by first | exact ga G (by decide) rfl | assumption) (by first | assumption | (simp (disch := omega) only [pI_eq, pI_row, pI_col, va_up_self, va_up_ne, ne_eq, not_false_eq_true, b15, b18, b19] <;> rfl) | rfl) ?_ <;> try ((first | (with_reducible refine T_if_eqN (tgt := 24) (pc1 := 16) (pc := 13) k_M_text_13 (by decide) (by decide) (by omega) (fun hc => ?_) (fun hc => ?_) <;> first | (exfalso; omega) | skip) | refine T_if_eq_t (tgt := 24) (pc := 13) k_M_text_13 rfl (by decide) ?_ | refine T_if_eq_f (tgt := 24) (pc1 := 16) (pc := 13) k_M_text_13 rfl rfl (by decide) ?_ | refine T_if_eq (tgt := 24) (pc1 := 16) (pc := 13) k_M_text_13 rfl rfl (fun hc => ?_) (fun hc => ?_))))))))
      | (refine T_bipush (v := (-100)) (pc1 := 18) (pc := 16) k_M_text_16 rfl (by decide) ?_ <;> try ((first | refine T_aload_n (pc1 := 19) (pc := 18) k_M_text_18 rfl rfl ?_ | refine T_aload_nN (pc1 := 19) (pc := 18) k_M_text_18 rfl rfl ?_) <;> try (refine T_getV (pc1 := 22) (pc := 19) k_M_text_19 rfl f_M_213 rfl (by first | exact ga G (by decide) rfl | assumption) (by first | assumption | (simp (disch := omega) only [pI_eq, pI_row, pI_col, va_up_self, va_up_ne, ne_eq, not_false_eq_true, b15, b18, b19] <;> rfl) | rfl) ?_ <;> try ((first | with_reducible refine T_isubN (pc1 := 23) (pc := 22) k_M_text_22 (by decide) (by omega) ?_ | refine T_isub (pc1 := 23) (pc := 22) k_M_text_22 rfl ?_) <;> try (refine T_retI (pc := 23) k_M_text_23 rfl (by first | rfl | decide | assumption) ?_)))))
      | refine T_iconst (v := (nI 0)) (pc1 := 6) (pc := 5) k_M_text_5 rfl (by decide) ?_
      | refine T_putI (pc1 := 9) (pc := 6) k_M_text_6 rfl f_M_200 rfl (by first | exact ga G (by decide) rfl | assumption) (by first | rfl | decide | assumption) (by first | rfl | decide | assumption) ?_
      | refine T_aload_n (pc1 := 10) (pc := 9) k_M_text_9 rfl rfl ?_
      | refine T_aload_nN (pc1 := 10) (pc := 9) k_M_text_9 rfl rfl ?_
      | refine T_getV (pc1 := 13) (pc := 10) k_M_text_10 rfl f_M_225 rfl (by first | exact ga G (by decide) rfl | assumption) (by first | assumption | (simp (disch := omega) only [pI_eq, pI_row, pI_col, va_up_self, va_up_ne, ne_eq, not_false_eq_true, b15, b18, b19] <;> rfl) | rfl) ?_
      | (with_reducible refine T_if_eqN (tgt := 24) (pc1 := 16) (pc := 13) k_M_text_13 (by decide) (by decide) (by omega) (fun hc => ?_) (fun hc => ?_) <;> first | (exfalso; omega) | skip)
      | refine T_if_eq_t (tgt := 24) (pc := 13) k_M_text_13 rfl (by decide) ?_
      | refine T_if_eq_f (tgt := 24) (pc1 := 16) (pc := 13) k_M_text_13 rfl rfl (by decide) ?_
      | refine T_if_eq (tgt := 24) (pc1 := 16) (pc := 13) k_M_text_13 rfl rfl (fun hc => ?_) (fun hc => ?_)
      | refine T_aload_n (pc1 := 19) (pc := 18) k_M_text_18 rfl rfl ?_
      | refine T_aload_nN (pc1 := 19) (pc := 18) k_M_text_18 rfl rfl ?_
      | refine T_getV (pc1 := 22) (pc := 19) k_M_text_19 rfl f_M_213 rfl (by first | exact ga G (by decide) rfl | assumption) (by first | assumption | (simp (disch := omega) only [pI_eq, pI_row, pI_col, va_up_self, va_up_ne, ne_eq, not_false_eq_true, b15, b18, b19] <;> rfl) | rfl) ?_
      | with_reducible refine T_isubN (pc1 := 23) (pc := 22) k_M_text_22 (by decide) (by omega) ?_
      | refine T_isub (pc1 := 23) (pc := 22) k_M_text_22 rfl ?_
      | refine T_retI (pc := 23) k_M_text_23 rfl (by first | rfl | decide | assumption) ?_)
    refine kk _ _ (fun i hi => ?_) ?_ (fun k a b => ?_) pI_eq rfl
    · rw [pI_rw (fun q => hi (by simp; omega))]
      exact hJ.1 i (fun q => hi (by simp at q ⊢; omega))
    · rw [pI_rw (by decide), hJ.1 102 (by decide)]; exact hN
    · rw [pI_col b]; exact hJ.2 k a
end M25
