/-! A land's row and its cells change together. -/
section PC7
theorem okL_upb {N : Row} {n tn b k : Nat} {v : Int32} (ok : okL N n tn) (hb : b < n) (hk : k < 6) (h : okB (va_up N (12 + 6 * b + k) v) b) : okL (va_up N (12 + 6 * b + k) v) n tn := by
  have h14 := ok.2.1
  refine okL_agr ok (va_up_ne _ _ (by omega)) (va_up_ne _ _ (by omega)) (va_up_ne _ _ (by omega)) (va_up_ne _ _ (by omega)) (fun j hj => ?_) (fun q hq => va_up_ne _ _ (by omega))
  by_cases hjb : j = b
  · subst hjb; exact h
  · exact okB_agr (fun q hq => by unfold bf; rw [va_up_ne _ _ (by omega)]) (ok.2.2.2.2.1 j hj)
theorem bf_same {N : Row} {b k : Nat} {v : Int32} : bf (va_up N (12 + 6 * b + k) v) b k = v := by unfold bf; rw [va_up_self]
theorem bf_oth {N : Row} {b k j q : Nat} {v : Int32} (hk : k < 6) (hq : q < 6) (h : j ≠ b ∨ q ≠ k) : bf (va_up N (12 + 6 * b + k) v) j q = bf N j q := by unfold bf; rw [va_up_ne _ _ (by omega)]
theorem okB_0 {N : Row} {b k : Nat} (h : okB N b) (hk : k < 6) : okB (va_up N (12 + 6 * b + 0) (nI k)) b := by
  obtain ⟨k0, o, t, l, r, h0, h0', h1, h1', h2, h2', hne, h3, h3', h3'', h4, h4', h5⟩ := h
  refine ⟨k, o, t, l, r, bf_same, hk, ?_, h1', ?_, h2', hne, ?_, h3', h3'', ?_, h4', ?_⟩
  all_goals rw [bf_oth (by decide) (by decide) (Or.inr (by decide))]; assumption
theorem okB_3 {N : Row} {b v : Nat} (h : okB N b) (hv1 : 1 ≤ v) (hv : v ≤ 99) : okB (va_up N (12 + 6 * b + 3) (nI v)) b := by
  obtain ⟨k0, o, t, l, r, h0, h0', h1, h1', h2, h2', hne, h3, h3', h3'', h4, h4', h5⟩ := h
  refine ⟨k0, o, t, v, r, ?_, h0', ?_, h1', ?_, h2', hne, bf_same, hv1, hv, ?_, h4', ?_⟩
  all_goals rw [bf_oth (by decide) (by decide) (Or.inr (by decide))]; assumption
theorem okB_4 {N : Row} {b v : Nat} (h : okB N b) (hv : v ≤ 999) : okB (va_up N (12 + 6 * b + 4) (nI v)) b := by
  obtain ⟨k0, o, t, l, r, h0, h0', h1, h1', h2, h2', hne, h3, h3', h3'', h4, h4', h5⟩ := h
  refine ⟨k0, o, t, l, v, ?_, h0', ?_, h1', ?_, h2', hne, ?_, h3', h3'', bf_same, hv, ?_⟩
  all_goals rw [bf_oth (by decide) (by decide) (Or.inr (by decide))]; assumption
theorem okB_5 {N : Row} {b : Nat} {v : Int32} (h : okB N b) (hv : v = cNONE ∨ ∃ s : Nat, s ≤ 999 ∧ v = nI s) : okB (va_up N (12 + 6 * b + 5) v) b := by
  obtain ⟨k0, o, t, l, r, h0, h0', h1, h1', h2, h2', hne, h3, h3', h3'', h4, h4', h5⟩ := h
  refine ⟨k0, o, t, l, r, ?_, h0', ?_, h1', ?_, h2', hne, ?_, h3', h3'', ?_, h4', ?_⟩
  · rw [bf_oth (by decide) (by decide) (Or.inr (by decide))]; assumption
  · rw [bf_oth (by decide) (by decide) (Or.inr (by decide))]; assumption
  · rw [bf_oth (by decide) (by decide) (Or.inr (by decide))]; assumption
  · rw [bf_oth (by decide) (by decide) (Or.inr (by decide))]; assumption
  · rw [bf_oth (by decide) (by decide) (Or.inr (by decide))]; assumption
  · rw [bf_same]; exact hv
theorem okW_agr {N N' : Row} (h : okW N) (h7 : N' 7 = N 7) (h9 : N' 9 = N 9) (hr : ∀ i, i < 60 → N' (96 + i) = N (96 + i)) : okW N' := by
  obtain ⟨tr, a, b, c, d⟩ := h
  exact ⟨tr, a, h9.trans b, by rw [h7]; exact c, fun i hi => by rw [hr i (by omega)]; exact d i hi⟩
theorem okW_up {N : Row} {i : Nat} {v : Int32} (h : okW N) (hi : i < 7 ∨ (12 ≤ i ∧ i < 96) ∨ 156 ≤ i) : okW (va_up N i v) := okW_agr h (va_up_ne _ _ (by omega)) (va_up_ne _ _ (by omega)) (fun j hj => va_up_ne _ _ (by omega))
/-- rows that agree but for bits and scalars -/
theorem LR_to {g : Geo} {I J : IM} {a n tn n' : Nat} {N N' : Row} (hL : LaR g I a N n tn) (ok : okL N n tn) (okw : okW N) (ha : a + 20 ≤ 61) (hf : fre (lnd a) I J) (e3 : J (a + 3) = I (a + 3)) (e4 : J (a + 4) = I (a + 4)) (e5 : J (a + 5) = I (a + 5)) (e8 : J a 8 = I a 8) (hN : ∀ k, 156 ≤ k → N' k = N k) (hw : ∀ k, 7 ≤ k → k < 12 → N' k = N k) (hr : ∀ i, i < 60 → N' (96 + i) = N (96 + i)) (hb : LBt J a N' n') (hs : LSc J a N') : LaR g J a N' n' tn := by
  obtain ⟨h1, h2, h3, h4⟩ := hL
  obtain ⟨tr, t60, h9, -⟩ := okw
  refine ⟨LTx_fr h1 hf (fun i hi => by unfold lnd at hi; omega) e3 e8 hN, hb, ?_, hs⟩
  obtain ⟨w0, w1, w2, w3, w4, w5⟩ := h3
  unfold LWk
  rw [e4, e5, hw 7 (by omega) (by omega), hw 8 (by omega) (by omega), hw 9 (by omega) (by omega), hw 10 (by omega) (by omega), hw 11 (by omega) (by omega)]
  refine ⟨w0, w1, w2, w3, w4, fun i hi => ?_⟩
  rw [hr i (by rw [h9, nI_clamp (by omega)] at hi; omega)]
  exact w5 i hi
theorem LR_bit {g : Geo} {I : IM} {a n tn b k : Nat} {N : Row} {v : Int32} (hL : LaR g I a N n tn) (ok : okL N n tn) (okw : okW N) (ha : a + 20 ≤ 61) (hb : b < n) (hk : k < 6) : LaR g (pI I (a + 6 + b) k v) a (va_up N (12 + 6 * b + k) v) n tn := by
  have h14 := ok.2.1
  obtain ⟨h1, ⟨x1, x2, x3, x4⟩, h3, s1, s2, s3⟩ := id hL
  refine LR_to hL ok okw ha (fr_pI fr_rf ⟨by omega, by omega⟩) (pI_rw (by omega)) (pI_rw (by omega)) (pI_rw (by omega)) (pI_row (by omega)) (fun q hq => va_up_ne _ _ (by omega)) (fun q h7 h12 => va_up_ne _ _ (by omega)) (fun i hi => va_up_ne _ _ (by omega)) ⟨?_, ?_, ?_, fun j hj q hq => ?_⟩ ⟨?_, ?_, ?_⟩
  · rw [pI_row (by omega)]; exact x1
  · rw [pI_row (by omega), va_up_ne _ _ (by omega)]; exact x2
  · rw [pI_row (by omega), va_up_ne _ _ (by omega)]; exact x3
  · by_cases hjb : j = b
    · subst hjb
      by_cases hqk : q = k
      · subst hqk; rw [pI_eq, bf_same]
      · rw [pI_col hqk, bf_oth hk hq (Or.inr hqk)]; exact x4 j hj q hq
    · rw [pI_row (by omega), bf_oth hk hq (Or.inl hjb)]; exact x4 j hj q hq
  · rw [pI_row (by omega), va_up_ne _ _ (by omega)]; exact s1
  · rw [pI_row (by omega), va_up_ne _ _ (by omega)]; exact s2
  · rw [pI_row (by omega), va_up_ne _ _ (by omega)]; exact s3
theorem LR_seed {g : Geo} {I : IM} {a n tn : Nat} {N : Row} {v : Int32} (hL : LaR g I a N n tn) (ok : okL N n tn) (okw : okW N) (ha : a + 20 ≤ 61) : LaR g (pI I a 6 v) a (va_up N 0 v) n tn := by
  have h14 := ok.2.1
  obtain ⟨h1, ⟨x1, x2, x3, x4⟩, h3, s1, s2, s3⟩ := id hL
  refine LR_to hL ok okw ha (fr_pI fr_rf ⟨by omega, by omega⟩) (pI_rw (by omega)) (pI_rw (by omega)) (pI_rw (by omega)) (pI_col (by decide)) (fun q hq => va_up_ne _ _ (by omega)) (fun q h7 h12 => va_up_ne _ _ (by omega)) (fun i hi => va_up_ne _ _ (by omega)) ⟨?_, ?_, ?_, fun j hj q hq => ?_⟩ ⟨?_, ?_, ?_⟩
  · rw [pI_col (by decide)]; exact x1
  · rw [pI_col (by decide), va_up_ne _ _ (by omega)]; exact x2
  · rw [pI_col (by decide), va_up_ne _ _ (by omega)]; exact x3
  · rw [pI_row (by omega), bf_up (by omega) (by omega) hq]; exact x4 j hj q hq
  · rw [pI_col (by decide), va_up_ne _ _ (by omega)]; exact s1
  · rw [pI_col (by decide), va_up_ne _ _ (by omega)]; exact s2
  · rw [pI_eq, va_up_self]
theorem LR_wet {g : Geo} {I : IM} {a n tn : Nat} {N : Row} {v : Int32} (hL : LaR g I a N n tn) (ok : okL N n tn) (okw : okW N) (ha : a + 20 ≤ 61) : LaR g (pI I a 2 v) a (va_up N 3 v) n tn := by
  have h14 := ok.2.1
  obtain ⟨h1, ⟨x1, x2, x3, x4⟩, h3, s1, s2, s3⟩ := id hL
  refine LR_to hL ok okw ha (fr_pI fr_rf ⟨by omega, by omega⟩) (pI_rw (by omega)) (pI_rw (by omega)) (pI_rw (by omega)) (pI_col (by decide)) (fun q hq => va_up_ne _ _ (by omega)) (fun q h7 h12 => va_up_ne _ _ (by omega)) (fun i hi => va_up_ne _ _ (by omega)) ⟨?_, ?_, ?_, fun j hj q hq => ?_⟩ ⟨?_, ?_, ?_⟩
  · rw [pI_col (by decide)]; exact x1
  · rw [pI_eq, va_up_self]
  · rw [pI_col (by decide), va_up_ne _ _ (by omega)]; exact x3
  · rw [pI_row (by omega), bf_up (by omega) (by omega) hq]; exact x4 j hj q hq
  · rw [pI_col (by decide), va_up_ne _ _ (by omega)]; exact s1
  · rw [pI_col (by decide), va_up_ne _ _ (by omega)]; exact s2
  · rw [pI_col (by decide), va_up_ne _ _ (by omega)]; exact s3
theorem LR_gss {g : Geo} {I : IM} {a n tn : Nat} {N : Row} {v : Int32} (hL : LaR g I a N n tn) (ok : okL N n tn) (okw : okW N) (ha : a + 20 ≤ 61) : LaR g (pI I a 3 v) a (va_up N 4 v) n tn := by
  have h14 := ok.2.1
  obtain ⟨h1, ⟨x1, x2, x3, x4⟩, h3, s1, s2, s3⟩ := id hL
  refine LR_to hL ok okw ha (fr_pI fr_rf ⟨by omega, by omega⟩) (pI_rw (by omega)) (pI_rw (by omega)) (pI_rw (by omega)) (pI_col (by decide)) (fun q hq => va_up_ne _ _ (by omega)) (fun q h7 h12 => va_up_ne _ _ (by omega)) (fun i hi => va_up_ne _ _ (by omega)) ⟨?_, ?_, ?_, fun j hj q hq => ?_⟩ ⟨?_, ?_, ?_⟩
  · rw [pI_col (by decide)]; exact x1
  · rw [pI_col (by decide), va_up_ne _ _ (by omega)]; exact x2
  · rw [pI_eq, va_up_self]
  · rw [pI_row (by omega), bf_up (by omega) (by omega) hq]; exact x4 j hj q hq
  · rw [pI_col (by decide), va_up_ne _ _ (by omega)]; exact s1
  · rw [pI_col (by decide), va_up_ne _ _ (by omega)]; exact s2
  · rw [pI_col (by decide), va_up_ne _ _ (by omega)]; exact s3
theorem comesN_ne {N : Row} {b q : Nat} {k f t l : Int32} (h5 : q ≠ 5) (h : q < 12 + 6 * b ∨ 12 + 6 * b + 6 ≤ q) : comesN N b k f t l q = N q := by
  unfold comesN
  rw [va_up_ne _ _ h5, va_up_ne _ _ (by omega), va_up_ne _ _ (by omega), va_up_ne _ _ (by omega), va_up_ne _ _ (by omega), va_up_ne _ _ (by omega), va_up_ne _ _ (by omega)]
theorem comesN_at {N : Row} {b : Nat} {k f t l : Int32} : bf (comesN N b k f t l) b 0 = k ∧ bf (comesN N b k f t l) b 1 = f ∧ bf (comesN N b k f t l) b 2 = t ∧ bf (comesN N b k f t l) b 3 = l ∧ bf (comesN N b k f t l) b 4 = nI 0 ∧ bf (comesN N b k f t l) b 5 = cNONE := by
  unfold bf comesN
  refine ⟨?_, ?_, ?_, ?_, ?_, ?_⟩
  all_goals
    rw [va_up_ne _ _ (by omega)]
    repeat (first | rw [va_up_self] | rw [va_up_ne _ _ (by omega)])
theorem okL_comes {N : Row} {n tn k f t l : Nat} (ok : okL N n tn) (hn : n < 14) (hk : k < 6) (hf : f < 8) (ht : t < 8) (hne : f ≠ t) (hl1 : 1 ≤ l) (hl : l ≤ 99) : okL (comesN N n (nI k) (nI f) (nI t) (nI l)) (n + 1) tn := by
  obtain ⟨a1, a2, a3, a4, a5, a6, a7, a8⟩ := ok
  obtain ⟨c0, c1, c2, c3, c4, c5⟩ := comesN_at (N := N) (b := n) (k := nI k) (f := nI f) (t := nI t) (l := nI l)
  refine ⟨by unfold comesN; rw [va_up_self], by omega, (comesN_ne (by decide) (by omega)).trans a3, a4, fun b hb => ?_, fun t0 ht0 => okT_agr (fun q hq => comesN_ne (by omega) (by omega)) (a6 t0 ht0), by rw [comesN_ne (by decide) (by omega)]; exact a7, by rw [comesN_ne (by decide) (by omega)]; exact a8⟩
  by_cases hbn : b = n
  · subst hbn
    exact ⟨k, f, t, l, 0, c0, hk, c1, hf, c2, ht, hne, c3, hl1, hl, c4, by omega, Or.inl c5⟩
  · exact okB_agr (fun q hq => by unfold bf; exact comesN_ne (by omega) (by omega)) (a5 b (by omega))
theorem LR_add {g : Geo} {I : IM} {a n tn : Nat} {N : Row} {k f t l : Int32} (hL : LaR g I a N n tn) (ok : okL N n tn) (okw : okW N) (ha : a + 20 ≤ 61) (hn : n < 14) : LaR g (pI (pI (pI (pI (pI (pI (pI I (a + 6 + n) 0 k) (a + 6 + n) 1 f) (a + 6 + n) 2 t) (a + 6 + n) 3 l) (a + 6 + n) 4 (nI 0)) (a + 6 + n) 5 cNONE) a 1 (nI (n + 1))) a (comesN N n k f t l) (n + 1) tn := by
  obtain ⟨h1, ⟨x1, x2, x3, x4⟩, h3, s1, s2, s3⟩ := id hL
  obtain ⟨c0, c1, c2, c3, c4, c5⟩ := comesN_at (N := N) (b := n) (k := k) (f := f) (t := t) (l := l)
  have e : ∀ i, i ≠ a → i ≠ a + 6 + n → pI (pI (pI (pI (pI (pI (pI I (a + 6 + n) 0 k) (a + 6 + n) 1 f) (a + 6 + n) 2 t) (a + 6 + n) 3 l) (a + 6 + n) 4 (nI 0)) (a + 6 + n) 5 cNONE) a 1 (nI (n + 1)) i = I i := fun i p q => by rw [pI_rw p, pI_rw q, pI_rw q, pI_rw q, pI_rw q, pI_rw q, pI_rw q]
  have ea : ∀ k0, k0 ≠ 1 → pI (pI (pI (pI (pI (pI (pI I (a + 6 + n) 0 k) (a + 6 + n) 1 f) (a + 6 + n) 2 t) (a + 6 + n) 3 l) (a + 6 + n) 4 (nI 0)) (a + 6 + n) 5 cNONE) a 1 (nI (n + 1)) a k0 = I a k0 := fun k0 p => by rw [pI_col p, pI_row (by omega), pI_row (by omega), pI_row (by omega), pI_row (by omega), pI_row (by omega), pI_row (by omega)]
  refine LR_to hL ok okw ha (fun i hi => e i (fun q => hi (by unfold lnd; omega)) (fun q => hi (by unfold lnd; omega))) (e _ (by omega) (by omega)) (e _ (by omega) (by omega)) (e _ (by omega) (by omega)) (ea _ (by decide)) (fun q hq => comesN_ne (by omega) (by omega)) (fun q h7 h12 => comesN_ne (by omega) (by omega)) (fun i hi => comesN_ne (by omega) (by omega)) ⟨pI_eq, ?_, ?_, fun j hj q hq => ?_⟩ ⟨?_, ?_, ?_⟩
  · rw [ea _ (by decide), comesN_ne (by decide) (by omega)]; exact x2
  · rw [ea _ (by decide), comesN_ne (by decide) (by omega)]; exact x3
  · by_cases hjn : j = n
    · subst hjn
      rw [pI_row (by omega)]
      obtain rfl | rfl | rfl | rfl | rfl | rfl : q = 0 ∨ q = 1 ∨ q = 2 ∨ q = 3 ∨ q = 4 ∨ q = 5 := by omega
      all_goals simp (disch := decide) only [pI_eq, pI_col, ne_eq, c0, c1, c2, c3, c4, c5]
    · rw [e _ (by omega) (by omega)]
      have := x4 j (by omega) q hq
      unfold bf
      rw [comesN_ne (by omega) (by omega)]
      exact this
  · rw [ea _ (by decide), comesN_ne (by decide) (by omega)]; exact s1
  · rw [ea _ (by decide), comesN_ne (by decide) (by omega)]; exact s2
  · rw [ea _ (by decide), comesN_ne (by decide) (by omega)]; exact s3
end PC7
