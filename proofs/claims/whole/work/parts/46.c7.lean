/-! The class: lands and walks are copied; bits come. -/
section PC5
/-- the same geometry but for the references of cell r -/
def GS (r : Nat) (g g' : Geo) : Prop := g'.1 = g.1 ∧ gk g' = gk g ∧ gz g' = gz g ∧ gs g' = gs g ∧ ∀ i, i ≠ r → gR g' i = gR g i
theorem GS_rf {r : Nat} {g : Geo} : GS r g g := ⟨rfl, rfl, rfl, rfl, fun _ _ => rfl⟩
theorem GS_tr {r : Nat} {g g' h : Geo} (h1 : GS r g g') (h2 : GS r g' h) : GS r g h := ⟨h2.1.trans h1.1, h2.2.1.trans h1.2.1, h2.2.2.1.trans h1.2.2.1, h2.2.2.2.1.trans h1.2.2.2.1, fun i hi => (h2.2.2.2.2 i hi).trans (h1.2.2.2.2 i hi)⟩
theorem GS_p {r k : Nat} {g : Geo} {v : Option Nat} : GS r g (gpR g r k v) := ⟨rfl, rfl, rfl, rfl, fun i hi => va_up_ne _ _ hi⟩
theorem GS_A {r : Nat} {g g' : Geo} (h : GS r g g') {i t n : Nat} (ha : isAg g i t n) : isAg g' i t n := by
  unfold isAg
  rw [h.2.2.1, h.2.1]
  exact ha
theorem GS_G {r : Nat} {g g' : Geo} (h : GS r g g') (hr : r = 3 ∨ r = 23 ∨ r = 43) (G : GeoOK g) : GeoOK g' := by
  obtain ⟨h1, h2, h3, h4⟩ := G
  refine ⟨by rw [h.2.2.1]; exact h1, by rw [h.2.2.1]; exact h2, fun i hi => by rw [h.2.1]; exact h3 i hi, fun i k hi a b c => ?_⟩
  rw [h.2.2.2.2 i (by omega)]
  exact h4 i k hi a b c
theorem GS_L {r a : Nat} {g g' : Geo} (h : GS r g g') (hr : ∀ i, i = a ∨ i = a + 1 ∨ i = a + 4 → i ≠ r) (L : LandG g a) : LandG g' a := by
  obtain ⟨g1, g2, g3, g4, g5, g6, g7, g8, g9, g10, g11, g12, g13, g14⟩ := L
  exact ⟨GS_A h g1, GS_A h g2, GS_A h g3, GS_A h g4, GS_A h g5, GS_A h g6, fun b hb => GS_A h (g7 b hb), by rw [h.2.2.2.2 _ (hr _ (by omega))]; exact g8, by rw [h.2.2.2.2 _ (hr _ (by omega))]; exact g9, by rw [h.2.2.2.2 _ (hr _ (by omega))]; exact g10, by rw [h.2.2.2.2 _ (hr _ (by omega))]; exact g11, by rw [h.2.2.2.2 _ (hr _ (by omega))]; exact g12, fun b hb => by rw [h.2.2.2.2 _ (hr _ (by omega))]; exact g13 b hb, g14⟩
theorem GS_T {r t q : Nat} {g g' : Geo} {I : IM} {N : Row} (h : GS r g g') (hr : r < 121) (T : TxR g I N t q) : TxR g' I N t q := by
  obtain ⟨h1, h2, h3, h4, h5, h6, h7, h8, h9, h10⟩ := T
  exact ⟨h1, h2, GS_A h h3, by rw [h.2.2.2.2 q (by omega)]; exact h4, by rw [h.2.2.2.2 q (by omega)]; exact h5, h6, h7, GS_A h h8, GS_A h h9, h10⟩
theorem GS_X {r a tn : Nat} {g g' : Geo} {I : IM} {N : Row} (h : GS r g g') (hr : r < 121) (hra : a + 2 ≠ r) (T : LTx g I a N tn) : LTx g' I a N tn := by
  refine ⟨T.1, T.2.1, fun t ht => ?_⟩
  obtain ⟨q, hq, hx⟩ := T.2.2 t ht
  exact ⟨q, by rw [h.2.2.2.2 _ hra]; exact hq, GS_T h hr hx⟩
/-- a land elsewhere stays what it is -/
theorem LR_fr {r a n tn : Nat} {P : Nat → Prop} {g g' : Geo} {I J : IM} {N : Row} (hL : LaR g I a N n tn) (hn : n ≤ 14) (h : GS r g g') (hr : r < 121) (hra : a + 2 ≠ r) (hf : fre P I J) (hP : ∀ i, lnd a i → ¬ P i) (hP2 : ∀ i, P i → i < 121 ∨ stk i) : LaR g' J a N n tn := by
  obtain ⟨h1, h2, h3, h4⟩ := hL
  have e : ∀ i, lnd a i → J i = I i := fun i hi => hf i (hP i hi)
  have ea := e a ⟨Nat.le_refl _, by omega⟩
  have e4 := e (a + 4) ⟨by omega, by omega⟩
  have e5 := e (a + 5) ⟨by omega, by omega⟩
  refine ⟨GS_X h hr hra (LTx_cf h1 hf hP hP2), LBt_fr h2 hn hf hP, ?_, ?_⟩
  · unfold LWk
    rw [e4, e5]
    exact h3
  · unfold LSc
    rw [ea]
    exact h4
theorem gpR_eq {g : Geo} {i k : Nat} {v : Option Nat} : gR (gpR g i k v) i k = v := by
  show va_up (gR g) i (va_up (gR g i) k v) i k = v
  rw [va_up_self, va_up_self]
theorem gpR_ne {g : Geo} {i k j : Nat} {v : Option Nat} (h : j ≠ k) : gR (gpR g i k v) i j = gR g i j := by
  show va_up (gR g) i (va_up (gR g i) k v) i j = gR g i j
  rw [va_up_self, va_up_ne _ _ h]
end PC5
section C7
variable {g : Geo} {I : IM} {K : Option Value → Geo → IM → Prop}
theorem c_Wa_takeFrom {i j ri rj tr : Nat} (hi : isAg g i 7 6) (hj : isAg g j 7 6) (hri : gR g i 5 = some ri) (hrj : gR g j 5 = some rj) (hai : isAg g ri 100 60) (haj : isAg g rj 100 60) (hb : I j 0 = nI 0 ∨ I j 0 = nI 1) (ht : I j 2 = nI tr) (h60 : tr ≤ 60) (n1 : i ≠ j) (n2 : ri ≠ i) (n3 : ri ≠ j) (n4 : rj ≠ i) (n5 : rj ≠ ri) (kk : ∀ J, eqx [i, ri] I J → (∀ k, k < 5 → J i k = I j k) → (∀ x, x < tr → J ri x = I rj x) → K none g J) : Cl 1 M_Wa_takeFrom [.ref i, .ref j] g I K := by
  show Rl 1 M_Wa_takeFrom 0 [some (.ref i), some (.ref j)] [] g I K
  have c0 : (nI 0).toNatClampNeg = 0 := rfl
  have ct : (nI tr).toNatClampNeg = tr := nI_clamp (by omega)
  have nj : j ≠ i := Ne.symm n1
  have fin : ∀ v0, I j 0 = v0 → ∀ J, J = va_up (pI (pI (pI (pI (pI I i 0 v0) i 1 (I j 1)) i 2 (nI tr)) i 3 (I j 3)) i 4 (I j 4)) ri (va_cpy (pI (pI (pI (pI (pI I i 0 v0) i 1 (I j 1)) i 2 (nI tr)) i 3 (I j 3)) i 4 (I j 4) rj) (pI (pI (pI (pI (pI I i 0 v0) i 1 (I j 1)) i 2 (nI tr)) i 3 (I j 3)) i 4 (I j 4) ri) (nI 0).toNatClampNeg (nI 0).toNatClampNeg (nI tr).toNatClampNeg) → K none g J := by
    intro v0 hv0 J hJ
    subst hJ
    refine kk _ (eqx_up (eqx_pI (eqx_pI (eqx_pI (eqx_pI (eqx_pI eqx_rf _ (by simp)) _ (by simp)) _ (by simp)) _ (by simp)) _ (by simp)) _ (by simp)) (fun k hk => ?_) (fun x hx => ?_)
    · rw [va_up_ne _ _ (Ne.symm n2)]
      obtain rfl | rfl | rfl | rfl | rfl : k = 0 ∨ k = 1 ∨ k = 2 ∨ k = 3 ∨ k = 4 := by omega
      · simp (disch := decide) only [pI_eq, pI_col, ne_eq]; exact hv0.symm
      · simp (disch := decide) only [pI_eq, pI_col, ne_eq]
      · simp (disch := decide) only [pI_eq, pI_col, ne_eq]; exact ht.symm
      · simp (disch := decide) only [pI_eq, pI_col, ne_eq]
      · simp (disch := decide) only [pI_eq, pI_col, ne_eq]
    · rw [va_up_self, c0, ct, pk_cpy_in (by omega) (by omega), Nat.zero_add, Nat.sub_zero, pI_rw n4, pI_rw n4, pI_rw n4, pI_rw n4, pI_rw n4]
  rcases hb with hb | hb
  all_goals
    repeat' (first
      | ((first | refine T_aload_n (pc1 := 1) (pc := 0) k_Wa_takeFrom_0 rfl rfl ?_ | refine T_aload_nN (pc1 := 1) (pc := 0) k_Wa_takeFrom_0 rfl rfl ?_) <;> try ((first | refine T_aload_n (pc1 := 2) (pc := 1) k_Wa_takeFrom_1 rfl rfl ?_ | refine T_aload_nN (pc1 := 2) (pc := 1) k_Wa_takeFrom_1 rfl rfl ?_) <;> try (refine T_getV (pc1 := 5) (pc := 2) k_Wa_takeFrom_2 rfl f_Wa_9 rfl (by first | assumption | exact ga G (by decide) rfl | exact lgA LG (by omega)) (by first | assumption | (simp (disch := omega) only [pI_eq, pI_row, pI_col, va_up_self, va_up_ne, ne_eq, not_false_eq_true, hb, ht] <;> rfl) | rfl) ?_ <;> try (refine T_putI (pc1 := 8) (pc := 5) k_Wa_takeFrom_5 rfl f_Wa_9 rfl (by first | assumption | exact ga G (by decide) rfl | exact lgA LG (by omega)) (by first | rfl | decide | assumption) (by first | rfl | decide | assumption) ?_ <;> try ((first | refine T_aload_n (pc1 := 9) (pc := 8) k_Wa_takeFrom_8 rfl rfl ?_ | refine T_aload_nN (pc1 := 9) (pc := 8) k_Wa_takeFrom_8 rfl rfl ?_) <;> try ((first | refine T_aload_n (pc1 := 10) (pc := 9) k_Wa_takeFrom_9 rfl rfl ?_ | refine T_aload_nN (pc1 := 10) (pc := 9) k_Wa_takeFrom_9 rfl rfl ?_) <;> try (refine T_getV (pc1 := 13) (pc := 10) k_Wa_takeFrom_10 rfl f_Wa_15 rfl (by first | assumption | exact ga G (by decide) rfl | exact lgA LG (by omega)) (by first | assumption | (simp (disch := omega) only [pI_eq, pI_row, pI_col, va_up_self, va_up_ne, ne_eq, not_false_eq_true, hb, ht] <;> rfl) | rfl) ?_ <;> try (refine T_putI (pc1 := 16) (pc := 13) k_Wa_takeFrom_13 rfl f_Wa_15 rfl (by first | assumption | exact ga G (by decide) rfl | exact lgA LG (by omega)) (by first | rfl | decide | assumption) (by first | rfl | decide | assumption) ?_ <;> try ((first | refine T_aload_n (pc1 := 17) (pc := 16) k_Wa_takeFrom_16 rfl rfl ?_ | refine T_aload_nN (pc1 := 17) (pc := 16) k_Wa_takeFrom_16 rfl rfl ?_) <;> try ((first | refine T_aload_n (pc1 := 18) (pc := 17) k_Wa_takeFrom_17 rfl rfl ?_ | refine T_aload_nN (pc1 := 18) (pc := 17) k_Wa_takeFrom_17 rfl rfl ?_) <;> try (refine T_getV (pc1 := 21) (pc := 18) k_Wa_takeFrom_18 rfl f_Wa_19 rfl (by first | assumption | exact ga G (by decide) rfl | exact lgA LG (by omega)) (by first | assumption | (simp (disch := omega) only [pI_eq, pI_row, pI_col, va_up_self, va_up_ne, ne_eq, not_false_eq_true, hb, ht] <;> rfl) | rfl) ?_ <;> try (refine T_putI (pc1 := 24) (pc := 21) k_Wa_takeFrom_21 rfl f_Wa_19 rfl (by first | assumption | exact ga G (by decide) rfl | exact lgA LG (by omega)) (by first | rfl | decide | assumption) (by first | rfl | decide | assumption) ?_ <;> try ((first | refine T_aload_n (pc1 := 25) (pc := 24) k_Wa_takeFrom_24 rfl rfl ?_ | refine T_aload_nN (pc1 := 25) (pc := 24) k_Wa_takeFrom_24 rfl rfl ?_) <;> try ((first | refine T_aload_n (pc1 := 26) (pc := 25) k_Wa_takeFrom_25 rfl rfl ?_ | refine T_aload_nN (pc1 := 26) (pc := 25) k_Wa_takeFrom_25 rfl rfl ?_)))))))))))))))
      | (refine T_getV (pc1 := 29) (pc := 26) k_Wa_takeFrom_26 rfl f_Wa_22 rfl (by first | assumption | exact ga G (by decide) rfl | exact lgA LG (by omega)) (by first | assumption | (simp (disch := omega) only [pI_eq, pI_row, pI_col, va_up_self, va_up_ne, ne_eq, not_false_eq_true, hb, ht] <;> rfl) | rfl) ?_ <;> try (refine T_putI (pc1 := 32) (pc := 29) k_Wa_takeFrom_29 rfl f_Wa_22 rfl (by first | assumption | exact ga G (by decide) rfl | exact lgA LG (by omega)) (by first | rfl | decide | assumption) (by first | rfl | decide | assumption) ?_ <;> try ((first | refine T_aload_n (pc1 := 33) (pc := 32) k_Wa_takeFrom_32 rfl rfl ?_ | refine T_aload_nN (pc1 := 33) (pc := 32) k_Wa_takeFrom_32 rfl rfl ?_) <;> try ((first | refine T_aload_n (pc1 := 34) (pc := 33) k_Wa_takeFrom_33 rfl rfl ?_ | refine T_aload_nN (pc1 := 34) (pc := 33) k_Wa_takeFrom_33 rfl rfl ?_) <;> try (refine T_getV (pc1 := 37) (pc := 34) k_Wa_takeFrom_34 rfl f_Wa_25 rfl (by first | assumption | exact ga G (by decide) rfl | exact lgA LG (by omega)) (by first | assumption | (simp (disch := omega) only [pI_eq, pI_row, pI_col, va_up_self, va_up_ne, ne_eq, not_false_eq_true, hb, ht] <;> rfl) | rfl) ?_ <;> try (refine T_putI (pc1 := 40) (pc := 37) k_Wa_takeFrom_37 rfl f_Wa_25 rfl (by first | assumption | exact ga G (by decide) rfl | exact lgA LG (by omega)) (by first | rfl | decide | assumption) (by first | rfl | decide | assumption) ?_ <;> try ((first | refine T_aload_n (pc1 := 41) (pc := 40) k_Wa_takeFrom_40 rfl rfl ?_ | refine T_aload_nN (pc1 := 41) (pc := 40) k_Wa_takeFrom_40 rfl rfl ?_) <;> try (refine T_getR (pc1 := 44) (pc := 41) k_Wa_takeFrom_41 rfl f_Wa_28 rfl (by first | assumption | exact ga G (by decide) rfl | exact lgA LG (by omega)) (by first | assumption | exact gr G (by decide) rfl | exact lgR LG (by omega)) ?_ <;> try (refine T_iconst (v := (nI 0)) (pc1 := 45) (pc := 44) k_Wa_takeFrom_44 rfl (by decide) ?_ <;> try ((first | refine T_aload_n (pc1 := 46) (pc := 45) k_Wa_takeFrom_45 rfl rfl ?_ | refine T_aload_nN (pc1 := 46) (pc := 45) k_Wa_takeFrom_45 rfl rfl ?_) <;> try (refine T_getR (pc1 := 49) (pc := 46) k_Wa_takeFrom_46 rfl f_Wa_28 rfl (by first | assumption | exact ga G (by decide) rfl | exact lgA LG (by omega)) (by first | assumption | exact gr G (by decide) rfl | exact lgR LG (by omega)) ?_ <;> try (refine T_iconst (v := (nI 0)) (pc1 := 50) (pc := 49) k_Wa_takeFrom_49 rfl (by decide) ?_ <;> try ((first | refine T_aload_n (pc1 := 51) (pc := 50) k_Wa_takeFrom_50 rfl rfl ?_ | refine T_aload_nN (pc1 := 51) (pc := 50) k_Wa_takeFrom_50 rfl rfl ?_) <;> try (refine T_getV (pc1 := 54) (pc := 51) k_Wa_takeFrom_51 rfl f_Wa_19 rfl (by first | assumption | exact ga G (by decide) rfl | exact lgA LG (by omega)) (by first | assumption | (simp (disch := omega) only [pI_eq, pI_row, pI_col, va_up_self, va_up_ne, ne_eq, not_false_eq_true, hb, ht] <;> rfl) | rfl) ?_))))))))))))))
      | (refine T_acopy (pc1 := 57) (pc := 54) k_Wa_takeFrom_54 rfl l_Wa_32 (by decide) (Nat.le_of_ble_eq_true rfl) haj hai (by decide) (by decide) (nI_pos (by omega)) (by rw [c0, ct]; omega) (by rw [c0, ct]; omega) ?_ <;> try (refine T_retV (pc := 57) k_Wa_takeFrom_57 rfl ?_))
      | refine T_aload_n (pc1 := 2) (pc := 1) k_Wa_takeFrom_1 rfl rfl ?_
      | refine T_aload_nN (pc1 := 2) (pc := 1) k_Wa_takeFrom_1 rfl rfl ?_
      | refine T_getV (pc1 := 5) (pc := 2) k_Wa_takeFrom_2 rfl f_Wa_9 rfl (by first | assumption | exact ga G (by decide) rfl | exact lgA LG (by omega)) (by first | assumption | (simp (disch := omega) only [pI_eq, pI_row, pI_col, va_up_self, va_up_ne, ne_eq, not_false_eq_true, hb, ht] <;> rfl) | rfl) ?_
      | refine T_putI (pc1 := 8) (pc := 5) k_Wa_takeFrom_5 rfl f_Wa_9 rfl (by first | assumption | exact ga G (by decide) rfl | exact lgA LG (by omega)) (by first | rfl | decide | assumption) (by first | rfl | decide | assumption) ?_
      | refine T_aload_n (pc1 := 9) (pc := 8) k_Wa_takeFrom_8 rfl rfl ?_
      | refine T_aload_nN (pc1 := 9) (pc := 8) k_Wa_takeFrom_8 rfl rfl ?_
      | refine T_aload_n (pc1 := 10) (pc := 9) k_Wa_takeFrom_9 rfl rfl ?_
      | refine T_aload_nN (pc1 := 10) (pc := 9) k_Wa_takeFrom_9 rfl rfl ?_
      | refine T_getV (pc1 := 13) (pc := 10) k_Wa_takeFrom_10 rfl f_Wa_15 rfl (by first | assumption | exact ga G (by decide) rfl | exact lgA LG (by omega)) (by first | assumption | (simp (disch := omega) only [pI_eq, pI_row, pI_col, va_up_self, va_up_ne, ne_eq, not_false_eq_true, hb, ht] <;> rfl) | rfl) ?_
      | refine T_putI (pc1 := 16) (pc := 13) k_Wa_takeFrom_13 rfl f_Wa_15 rfl (by first | assumption | exact ga G (by decide) rfl | exact lgA LG (by omega)) (by first | rfl | decide | assumption) (by first | rfl | decide | assumption) ?_
      | refine T_aload_n (pc1 := 17) (pc := 16) k_Wa_takeFrom_16 rfl rfl ?_
      | refine T_aload_nN (pc1 := 17) (pc := 16) k_Wa_takeFrom_16 rfl rfl ?_
      | refine T_aload_n (pc1 := 18) (pc := 17) k_Wa_takeFrom_17 rfl rfl ?_
      | refine T_aload_nN (pc1 := 18) (pc := 17) k_Wa_takeFrom_17 rfl rfl ?_
      | refine T_getV (pc1 := 21) (pc := 18) k_Wa_takeFrom_18 rfl f_Wa_19 rfl (by first | assumption | exact ga G (by decide) rfl | exact lgA LG (by omega)) (by first | assumption | (simp (disch := omega) only [pI_eq, pI_row, pI_col, va_up_self, va_up_ne, ne_eq, not_false_eq_true, hb, ht] <;> rfl) | rfl) ?_
      | refine T_putI (pc1 := 24) (pc := 21) k_Wa_takeFrom_21 rfl f_Wa_19 rfl (by first | assumption | exact ga G (by decide) rfl | exact lgA LG (by omega)) (by first | rfl | decide | assumption) (by first | rfl | decide | assumption) ?_
      | refine T_aload_n (pc1 := 25) (pc := 24) k_Wa_takeFrom_24 rfl rfl ?_
      | refine T_aload_nN (pc1 := 25) (pc := 24) k_Wa_takeFrom_24 rfl rfl ?_
      | refine T_aload_n (pc1 := 26) (pc := 25) k_Wa_takeFrom_25 rfl rfl ?_
      | refine T_aload_nN (pc1 := 26) (pc := 25) k_Wa_takeFrom_25 rfl rfl ?_
      | refine T_putI (pc1 := 32) (pc := 29) k_Wa_takeFrom_29 rfl f_Wa_22 rfl (by first | assumption | exact ga G (by decide) rfl | exact lgA LG (by omega)) (by first | rfl | decide | assumption) (by first | rfl | decide | assumption) ?_
      | refine T_aload_n (pc1 := 33) (pc := 32) k_Wa_takeFrom_32 rfl rfl ?_
      | refine T_aload_nN (pc1 := 33) (pc := 32) k_Wa_takeFrom_32 rfl rfl ?_
      | refine T_aload_n (pc1 := 34) (pc := 33) k_Wa_takeFrom_33 rfl rfl ?_
      | refine T_aload_nN (pc1 := 34) (pc := 33) k_Wa_takeFrom_33 rfl rfl ?_
      | refine T_getV (pc1 := 37) (pc := 34) k_Wa_takeFrom_34 rfl f_Wa_25 rfl (by first | assumption | exact ga G (by decide) rfl | exact lgA LG (by omega)) (by first | assumption | (simp (disch := omega) only [pI_eq, pI_row, pI_col, va_up_self, va_up_ne, ne_eq, not_false_eq_true, hb, ht] <;> rfl) | rfl) ?_
      | refine T_putI (pc1 := 40) (pc := 37) k_Wa_takeFrom_37 rfl f_Wa_25 rfl (by first | assumption | exact ga G (by decide) rfl | exact lgA LG (by omega)) (by first | rfl | decide | assumption) (by first | rfl | decide | assumption) ?_
      | refine T_aload_n (pc1 := 41) (pc := 40) k_Wa_takeFrom_40 rfl rfl ?_
      | refine T_aload_nN (pc1 := 41) (pc := 40) k_Wa_takeFrom_40 rfl rfl ?_
      | refine T_getR (pc1 := 44) (pc := 41) k_Wa_takeFrom_41 rfl f_Wa_28 rfl (by first | assumption | exact ga G (by decide) rfl | exact lgA LG (by omega)) (by first | assumption | exact gr G (by decide) rfl | exact lgR LG (by omega)) ?_
      | refine T_iconst (v := (nI 0)) (pc1 := 45) (pc := 44) k_Wa_takeFrom_44 rfl (by decide) ?_
      | refine T_aload_n (pc1 := 46) (pc := 45) k_Wa_takeFrom_45 rfl rfl ?_
      | refine T_aload_nN (pc1 := 46) (pc := 45) k_Wa_takeFrom_45 rfl rfl ?_
      | refine T_getR (pc1 := 49) (pc := 46) k_Wa_takeFrom_46 rfl f_Wa_28 rfl (by first | assumption | exact ga G (by decide) rfl | exact lgA LG (by omega)) (by first | assumption | exact gr G (by decide) rfl | exact lgR LG (by omega)) ?_
      | refine T_iconst (v := (nI 0)) (pc1 := 50) (pc := 49) k_Wa_takeFrom_49 rfl (by decide) ?_
      | refine T_aload_n (pc1 := 51) (pc := 50) k_Wa_takeFrom_50 rfl rfl ?_
      | refine T_aload_nN (pc1 := 51) (pc := 50) k_Wa_takeFrom_50 rfl rfl ?_
      | refine T_getV (pc1 := 54) (pc := 51) k_Wa_takeFrom_51 rfl f_Wa_19 rfl (by first | assumption | exact ga G (by decide) rfl | exact lgA LG (by omega)) (by first | assumption | (simp (disch := omega) only [pI_eq, pI_row, pI_col, va_up_self, va_up_ne, ne_eq, not_false_eq_true, hb, ht] <;> rfl) | rfl) ?_
      | refine T_retV (pc := 57) k_Wa_takeFrom_57 rfl ?_)
    exact fin _ hb _ rfl
set_option maxHeartbeats 4000000 in
theorem c_La_takeFrom {a c n tn : Nat} {N : Row} (LG : LandG g a) (LC : LandG g c) (hac : a + 20 ≤ c ∨ c + 20 ≤ a) (ok : okL N n tn) (okw : okW N) (hL : LaR g I c N n tn) (kk : ∀ g' J, GS (a + 2) g g' → fre (lnd a) I J → LaR g' J a N n tn → K none g' J) : Cl 2 M_La_takeFrom [.ref a, .ref c] g I K := by
  show Rl 2 M_La_takeFrom 0 [some (.ref a), some (.ref c), none] [] g I K
  have h14 := ok.2.1
  have t14 := ok.2.2.2.1
  obtain ⟨g1, g2, g3, g4, g5, g6, g7, g8, g9, g10, g11, g12, g13, g14⟩ := id LG
  obtain ⟨q1, q2, q3, q4, q5, q6, q7, q8, q9, q10, q11, q12, q13, q14⟩ := id LC
  obtain ⟨LT, ⟨b1, b2, b3, b4⟩, ⟨w0, w1, w2, w3, w4, w5⟩, s1, s2, s3⟩ := id hL
  obtain ⟨t1, t2, t3⟩ := id LT
  have c8 : N 6 = nI tn := ok.2.2.1
  have c5 : N 5 = nI n := ok.1
  obtain ⟨tr, h60, h9, hhad, -⟩ := okw
  -- the end: texts are copied, then the ruling, then the walk
  have fin : ∀ (g' : Geo) (J : IM) o2, GS (a + 2) g g' → (∀ t, t < tn → gR g' (a + 2) t = gR g (c + 2) t) → fre (lnd a) I J → J a 1 = nI n → J a 2 = N 3 → J a 3 = N 4 → J a 4 = N 1 → J a 5 = N 2 → J a 6 = N 0 → J a 8 = nI tn → (∀ b, b < n → ∀ k, k < 6 → J (a + 6 + b) k = bf N b k) → Rl 2 M_La_takeFrom 115 [some (.ref a), some (.ref c), o2] [] g' J K := by
    intro g' J o2 hg ht hJ x1 x2 x3 x4 x5 x6 x8 xb
    have nl : ∀ i, ¬ lnd a i → J i = I i := hJ
    have e3 : J (c + 3) = I (c + 3) := nl _ (fun q => by unfold lnd at q; omega)
    have e4 : J (c + 4) = I (c + 4) := nl _ (fun q => by unfold lnd at q; omega)
    have e5 : J (c + 5) = I (c + 5) := nl _ (fun q => by unfold lnd at q; omega)
    have r9 : gR g' a 9 = some (a + 3) := by rw [hg.2.2.2.2 _ (by omega)]; exact g10
    have r9c : gR g' c 9 = some (c + 3) := by rw [hg.2.2.2.2 _ (by omega)]; exact q10
    have r10 : gR g' a 10 = some (a + 4) := by rw [hg.2.2.2.2 _ (by omega)]; exact g11
    have r10c : gR g' c 10 = some (c + 4) := by rw [hg.2.2.2.2 _ (by omega)]; exact q11
    have rw5 : gR g' (a + 4) 5 = some (a + 5) := by rw [hg.2.2.2.2 _ (by omega)]; exact g12
    have rw5c : gR g' (c + 4) 5 = some (c + 5) := by rw [hg.2.2.2.2 _ (by omega)]; exact q12
    have y1 := GS_A hg g1
    have y1c := GS_A hg q1
    have y4 := GS_A hg g4
    have y4c := GS_A hg q4
    have y5 := GS_A hg g5
    have y5c := GS_A hg q5
    have y6 := GS_A hg g6
    have y6c := GS_A hg q6
    repeat' (first
      | ((first | refine T_aload_n (pc1 := 116) (pc := 115) k_La_takeFrom_115 rfl rfl ?_ | refine T_aload_nN (pc1 := 116) (pc := 115) k_La_takeFrom_115 rfl rfl ?_) <;> try (refine T_getR (pc1 := 119) (pc := 116) k_La_takeFrom_116 rfl f_La_46 rfl (by first | assumption | exact ga G (by decide) rfl | exact lgA LG (by omega)) (by first | assumption | exact gr G (by decide) rfl | exact lgR LG (by omega)) ?_ <;> try (refine T_iconst (v := (nI 0)) (pc1 := 120) (pc := 119) k_La_takeFrom_119 rfl (by decide) ?_ <;> try ((first | refine T_aload_n (pc1 := 121) (pc := 120) k_La_takeFrom_120 rfl rfl ?_ | refine T_aload_nN (pc1 := 121) (pc := 120) k_La_takeFrom_120 rfl rfl ?_) <;> try (refine T_getR (pc1 := 124) (pc := 121) k_La_takeFrom_121 rfl f_La_46 rfl (by first | assumption | exact ga G (by decide) rfl | exact lgA LG (by omega)) (by first | assumption | exact gr G (by decide) rfl | exact lgR LG (by omega)) ?_ <;> try (refine T_iconst (v := (nI 0)) (pc1 := 125) (pc := 124) k_La_takeFrom_124 rfl (by decide) ?_ <;> try (refine T_iconst (v := (nI 3)) (pc1 := 126) (pc := 125) k_La_takeFrom_125 rfl (by decide) ?_ <;> try (refine T_acopy (pc1 := 129) (pc := 126) k_La_takeFrom_126 rfl l_La_62 (by decide) (Nat.le_of_ble_eq_true rfl) y4c y4 (by decide) (by decide) (by decide) (by decide) (by decide) ?_ <;> try ((first | refine T_aload_n (pc1 := 130) (pc := 129) k_La_takeFrom_129 rfl rfl ?_ | refine T_aload_nN (pc1 := 130) (pc := 129) k_La_takeFrom_129 rfl rfl ?_) <;> try (refine T_getR (pc1 := 133) (pc := 130) k_La_takeFrom_130 rfl f_La_53 rfl (by first | assumption | exact ga G (by decide) rfl | exact lgA LG (by omega)) (by first | assumption | exact gr G (by decide) rfl | exact lgR LG (by omega)) ?_ <;> try ((first | refine T_aload_n (pc1 := 134) (pc := 133) k_La_takeFrom_133 rfl rfl ?_ | refine T_aload_nN (pc1 := 134) (pc := 133) k_La_takeFrom_133 rfl rfl ?_) <;> try (refine T_getR (pc1 := 137) (pc := 134) k_La_takeFrom_134 rfl f_La_53 rfl (by first | assumption | exact ga G (by decide) rfl | exact lgA LG (by omega)) (by first | assumption | exact gr G (by decide) rfl | exact lgR LG (by omega)) ?_))))))))))))
      | refine T_getR (pc1 := 119) (pc := 116) k_La_takeFrom_116 rfl f_La_46 rfl (by first | assumption | exact ga G (by decide) rfl | exact lgA LG (by omega)) (by first | assumption | exact gr G (by decide) rfl | exact lgR LG (by omega)) ?_
      | refine T_iconst (v := (nI 0)) (pc1 := 120) (pc := 119) k_La_takeFrom_119 rfl (by decide) ?_
      | refine T_aload_n (pc1 := 121) (pc := 120) k_La_takeFrom_120 rfl rfl ?_
      | refine T_aload_nN (pc1 := 121) (pc := 120) k_La_takeFrom_120 rfl rfl ?_
      | refine T_getR (pc1 := 124) (pc := 121) k_La_takeFrom_121 rfl f_La_46 rfl (by first | assumption | exact ga G (by decide) rfl | exact lgA LG (by omega)) (by first | assumption | exact gr G (by decide) rfl | exact lgR LG (by omega)) ?_
      | refine T_iconst (v := (nI 0)) (pc1 := 125) (pc := 124) k_La_takeFrom_124 rfl (by decide) ?_
      | refine T_iconst (v := (nI 3)) (pc1 := 126) (pc := 125) k_La_takeFrom_125 rfl (by decide) ?_
      | refine T_acopy (pc1 := 129) (pc := 126) k_La_takeFrom_126 rfl l_La_62 (by decide) (Nat.le_of_ble_eq_true rfl) y4c y4 (by decide) (by decide) (by decide) (by decide) (by decide) ?_
      | refine T_aload_n (pc1 := 130) (pc := 129) k_La_takeFrom_129 rfl rfl ?_
      | refine T_aload_nN (pc1 := 130) (pc := 129) k_La_takeFrom_129 rfl rfl ?_
      | refine T_getR (pc1 := 133) (pc := 130) k_La_takeFrom_130 rfl f_La_53 rfl (by first | assumption | exact ga G (by decide) rfl | exact lgA LG (by omega)) (by first | assumption | exact gr G (by decide) rfl | exact lgR LG (by omega)) ?_
      | refine T_aload_n (pc1 := 134) (pc := 133) k_La_takeFrom_133 rfl rfl ?_
      | refine T_aload_nN (pc1 := 134) (pc := 133) k_La_takeFrom_133 rfl rfl ?_
      | refine T_getR (pc1 := 137) (pc := 134) k_La_takeFrom_134 rfl f_La_53 rfl (by first | assumption | exact ga G (by decide) rfl | exact lgA LG (by omega)) (by first | assumption | exact gr G (by decide) rfl | exact lgR LG (by omega)) ?_)
    have z0 : (nI 0).toNatClampNeg = 0 := rfl
    have z3 : (nI 3).toNatClampNeg = 3 := rfl
    rw [z0, z3]
    generalize hJ1 : va_up J (a + 3) (va_cpy (J (c + 3)) (J (a + 3)) 0 0 3) = J1
    have n1 : ∀ i, i ≠ a + 3 → J1 i = J i := fun i hi => by rw [← hJ1, va_up_ne _ _ hi]
    have n3 : ∀ k, k < 3 → J1 (a + 3) k = I (c + 3) k := fun k hk => by
      rw [← hJ1, va_up_self, pk_cpy_in (by omega) (by omega), Nat.zero_add, Nat.sub_zero, e3]
    have hb0 : J1 (c + 4) 0 = nI 0 ∨ J1 (c + 4) 0 = nI 1 := by
      rw [n1 _ (by omega), e4, w0]
      exact hhad.imp (fun q => q.1) id
    have ht2 : J1 (c + 4) 2 = nI tr := by rw [n1 _ (by omega), e4, w2]; exact h9
    repeat' (first
      | ((refine T_cV (As := [_]) (d1 := 1) (pc1 := 140) (pc := 137) k_La_takeFrom_137 rfl (by decide) (Nat.le_of_ble_eq_true rfl) rfl o_Wa_takeFrom l_La_68 rfl (by first | assumption | exact ga G (by decide) rfl | exact lgA LG (by omega)) rfl (c_Wa_takeFrom y5 y5c rw5 rw5c y6 y6c hb0 ht2 h60 (by omega) (by omega) (by omega) (by omega) (by omega) (fun J2 hJ2 hw hr => ?_)) <;> try dsimp only [psh]) <;> try (refine T_retV (pc := 140) k_La_takeFrom_140 rfl ?_))
      | refine T_retV (pc := 140) k_La_takeFrom_140 rfl ?_)
    have n2 : ∀ i, i ≠ a + 4 → i ≠ a + 5 → J2 i = J1 i := fun i h1 h2 => hJ2 i (by simp; omega)
    have na : J2 a = J a := by rw [n2 _ (by omega) (by omega), n1 _ (by omega)]
    have fr2 : fre (lnd a) I J2 := fun i hi => by
      rw [n2 i (fun q => hi (by unfold lnd; omega)) (fun q => hi (by unfold lnd; omega)), n1 i (fun q => hi (by unfold lnd; omega))]
      exact hJ i hi
    refine kk g' J2 hg fr2 ⟨⟨fun key hk => ?_, ?_, fun t htt => ?_⟩, ⟨?_, ?_, ?_, fun b hb k hk => ?_⟩, ⟨?_, ?_, ?_, ?_, ?_, fun x hx => ?_⟩, ?_, ?_, ?_⟩
    · rw [n2 _ (by omega) (by omega), n3 key hk]; exact t1 key hk
    · rw [na]; exact x8
    · obtain ⟨q, hq, hx⟩ := t3 t htt
      exact ⟨q, (ht t htt).trans hq, GS_T hg (by omega) (TxR_fr hx fr2 (fun i hi => by unfold lnd at hi; omega) (fun _ _ => rfl))⟩
    · rw [na]; exact x1
    · rw [na]; exact x2
    · rw [na]; exact x3
    · rw [n2 _ (by omega) (by omega), n1 _ (by omega)]; exact xb b hb k hk
    · rw [hw 0 (by decide), n1 _ (by omega), e4]; exact w0
    · rw [hw 1 (by decide), n1 _ (by omega), e4]; exact w1
    · rw [hw 2 (by decide), n1 _ (by omega), e4]; exact w2
    · rw [hw 3 (by decide), n1 _ (by omega), e4]; exact w3
    · rw [hw 4 (by decide), n1 _ (by omega), e4]; exact w4
    · have hx2 : x < tr := by rw [h9, nI_clamp (by omega)] at hx; exact hx
      rw [hr x hx2, n1 _ (by omega), e5]; exact w5 x hx
    · rw [na]; exact x4
    · rw [na]; exact x5
    · rw [na]; exact x6
  have texts : ∀ q t (g' : Geo) (J : IM), t + q = tn → GS (a + 2) g g' → (∀ k, k < t → gR g' (a + 2) k = gR g (c + 2) k) → fre (lnd a) I J → J a 1 = nI n → J a 2 = N 3 → J a 3 = N 4 → J a 4 = N 1 → J a 5 = N 2 → J a 6 = N 0 → J a 8 = nI tn → (∀ b, b < n → ∀ k, k < 6 → J (a + 6 + b) k = bf N b k) → Rl 2 M_La_takeFrom 89 [some (.ref a), some (.ref c), some (.int (nI t))] [] g' J K := by
    intro q
    induction q with
    | zero =>
      intro t g' J ht hg hgt hJ x1 x2 x3 x4 x5 x6 x8 xb
      have ht : t = tn := by omega
      subst ht
      have y1 := GS_A hg g1
      repeat' (first
        | (refine T_iload_n (pc1 := 90) (pc := 89) k_La_takeFrom_89 rfl rfl ?_ <;> try ((first | refine T_aload_n (pc1 := 91) (pc := 90) k_La_takeFrom_90 rfl rfl ?_ | refine T_aload_nN (pc1 := 91) (pc := 90) k_La_takeFrom_90 rfl rfl ?_) <;> try (refine T_getV (pc1 := 94) (pc := 91) k_La_takeFrom_91 rfl f_La_42 rfl (by first | assumption | exact ga G (by decide) rfl | exact lgA LG (by omega)) (by first | assumption | (simp (disch := omega) only [pI_eq, pI_row, pI_col, va_up_self, va_up_ne, ne_eq, not_false_eq_true] <;> rfl) | rfl) ?_ <;> try ((first | (with_reducible refine T_icmp_geN (tgt := 115) (pc1 := 97) (pc := 94) k_La_takeFrom_94 (by decide) (by decide) (by omega) (by omega) (fun hc => ?_) (fun hc => ?_) <;> first | (exfalso; omega) | skip) | refine T_icmp_ge_t (tgt := 115) (pc := 94) k_La_takeFrom_94 rfl (by decide) ?_ | refine T_icmp_ge_f (tgt := 115) (pc1 := 97) (pc := 94) k_La_takeFrom_94 rfl rfl (by decide) ?_ | refine T_icmp_ge (tgt := 115) (pc1 := 97) (pc := 94) k_La_takeFrom_94 rfl rfl (fun hc => ?_) (fun hc => ?_))))))
        | refine T_aload_n (pc1 := 91) (pc := 90) k_La_takeFrom_90 rfl rfl ?_
        | refine T_aload_nN (pc1 := 91) (pc := 90) k_La_takeFrom_90 rfl rfl ?_
        | refine T_getV (pc1 := 94) (pc := 91) k_La_takeFrom_91 rfl f_La_42 rfl (by first | assumption | exact ga G (by decide) rfl | exact lgA LG (by omega)) (by first | assumption | (simp (disch := omega) only [pI_eq, pI_row, pI_col, va_up_self, va_up_ne, ne_eq, not_false_eq_true] <;> rfl) | rfl) ?_
        | (with_reducible refine T_icmp_geN (tgt := 115) (pc1 := 97) (pc := 94) k_La_takeFrom_94 (by decide) (by decide) (by omega) (by omega) (fun hc => ?_) (fun hc => ?_) <;> first | (exfalso; omega) | skip)
        | refine T_icmp_ge_t (tgt := 115) (pc := 94) k_La_takeFrom_94 rfl (by decide) ?_
        | refine T_icmp_ge_f (tgt := 115) (pc1 := 97) (pc := 94) k_La_takeFrom_94 rfl rfl (by decide) ?_
        | refine T_icmp_ge (tgt := 115) (pc1 := 97) (pc := 94) k_La_takeFrom_94 rfl rfl (fun hc => ?_) (fun hc => ?_))
      exact fin g' J _ hg hgt hJ x1 x2 x3 x4 x5 x6 x8 xb
    | succ q ih =>
      intro t g' J ht hg hgt hJ x1 x2 x3 x4 x5 x6 x8 xb
      have y1 := GS_A hg g1
      have y1c := GS_A hg q1
      have y3 := GS_A hg g3
      have y3c := GS_A hg q3
      have r7 : gR g' a 7 = some (a + 2) := by rw [hg.2.2.2.2 _ (by omega)]; exact g9
      have r7c : gR g' c 7 = some (c + 2) := by rw [hg.2.2.2.2 _ (by omega)]; exact q9
      obtain ⟨p, hp, hx⟩ := t3 t (by omega)
      have hpt := GS_A hg hx.2.2.1
      have rt : gR g' (c + 2) t = some p := by rw [hg.2.2.2.2 _ (by omega)]; exact hp
      have ct : (nI t).toNatClampNeg = t := nI_clamp (by omega)
      refine T_iload_n (pc1 := 90) (pc := 89) k_La_takeFrom_89 rfl rfl ?_
      repeat' (first
        | ((first | refine T_aload_n (pc1 := 91) (pc := 90) k_La_takeFrom_90 rfl rfl ?_ | refine T_aload_nN (pc1 := 91) (pc := 90) k_La_takeFrom_90 rfl rfl ?_) <;> try (refine T_getV (pc1 := 94) (pc := 91) k_La_takeFrom_91 rfl f_La_42 rfl (by first | assumption | exact ga G (by decide) rfl | exact lgA LG (by omega)) (by first | assumption | (simp (disch := omega) only [pI_eq, pI_row, pI_col, va_up_self, va_up_ne, ne_eq, not_false_eq_true] <;> rfl) | rfl) ?_ <;> try ((first | (with_reducible refine T_icmp_geN (tgt := 115) (pc1 := 97) (pc := 94) k_La_takeFrom_94 (by decide) (by decide) (by omega) (by omega) (fun hc => ?_) (fun hc => ?_) <;> first | (exfalso; omega) | skip) | refine T_icmp_ge_t (tgt := 115) (pc := 94) k_La_takeFrom_94 rfl (by decide) ?_ | refine T_icmp_ge_f (tgt := 115) (pc1 := 97) (pc := 94) k_La_takeFrom_94 rfl rfl (by decide) ?_ | refine T_icmp_ge (tgt := 115) (pc1 := 97) (pc := 94) k_La_takeFrom_94 rfl rfl (fun hc => ?_) (fun hc => ?_)))))
        | ((first | refine T_aload_n (pc1 := 98) (pc := 97) k_La_takeFrom_97 rfl rfl ?_ | refine T_aload_nN (pc1 := 98) (pc := 97) k_La_takeFrom_97 rfl rfl ?_) <;> try (refine T_getR (pc1 := 101) (pc := 98) k_La_takeFrom_98 rfl f_La_38 rfl (by first | assumption | exact ga G (by decide) rfl | exact lgA LG (by omega)) (by first | assumption | exact gr G (by decide) rfl | exact lgR LG (by omega)) ?_ <;> try (refine T_iload_n (pc1 := 102) (pc := 101) k_La_takeFrom_101 rfl rfl ?_ <;> try ((first | refine T_aload_n (pc1 := 103) (pc := 102) k_La_takeFrom_102 rfl rfl ?_ | refine T_aload_nN (pc1 := 103) (pc := 102) k_La_takeFrom_102 rfl rfl ?_) <;> try (refine T_getR (pc1 := 106) (pc := 103) k_La_takeFrom_103 rfl f_La_38 rfl (by first | assumption | exact ga G (by decide) rfl | exact lgA LG (by omega)) (by first | assumption | exact gr G (by decide) rfl | exact lgR LG (by omega)) ?_ <;> try (refine T_iload_n (pc1 := 107) (pc := 106) k_La_takeFrom_106 rfl rfl ?_ <;> try ((first | refine T_aaldQ (e0 := 4) (pc1 := 108) (pc := 107) k_La_takeFrom_107 rfl (by first | assumption | exact ga G (by decide) rfl | exact lgA LG (by omega)) (by decide) (by omega) (by omega) (by first | assumption | exact gr G (by decide) rfl | exact lgR LG (by omega)) ?_ | refine T_aaldQ (e0 := 0) (pc1 := 108) (pc := 107) k_La_takeFrom_107 rfl (by first | assumption | exact ga G (by decide) rfl | exact lgA LG (by omega)) (by decide) (by omega) (by omega) (by first | assumption | exact gr G (by decide) rfl | exact lgR LG (by omega)) ?_ | refine T_aaldQ (e0 := 1) (pc1 := 108) (pc := 107) k_La_takeFrom_107 rfl (by first | assumption | exact ga G (by decide) rfl | exact lgA LG (by omega)) (by decide) (by omega) (by omega) (by first | assumption | exact gr G (by decide) rfl | exact lgR LG (by omega)) ?_ | refine T_aaldQ (e0 := 2) (pc1 := 108) (pc := 107) k_La_takeFrom_107 rfl (by first | assumption | exact ga G (by decide) rfl | exact lgA LG (by omega)) (by decide) (by omega) (by omega) (by first | assumption | exact gr G (by decide) rfl | exact lgR LG (by omega)) ?_ | refine T_aaldQ (e0 := 3) (pc1 := 108) (pc := 107) k_La_takeFrom_107 rfl (by first | assumption | exact ga G (by decide) rfl | exact lgA LG (by omega)) (by decide) (by omega) (by omega) (by first | assumption | exact gr G (by decide) rfl | exact lgR LG (by omega)) ?_) <;> try ((refine T_aast (e0 := 1) (ci := 6) (pc1 := 109) (pc := 108) k_La_takeFrom_108 rfl rfl y3 (vp_in_nI (by omega) (by omega)) hpt ?_; rw [ct]) <;> try ((first | refine T_iincN (b := 1) (pc1 := 112) (pc := 109) k_La_takeFrom_109 rfl rfl (by decide) ?_ | refine T_iinc (v := (nI 1)) (pc1 := 112) (pc := 109) k_La_takeFrom_109 rfl rfl (by decide) ?_) <;> try (refine T_goto (tgt := 89) (pc := 112) k_La_takeFrom_112 rfl ?_))))))))))
        | refine T_getV (pc1 := 94) (pc := 91) k_La_takeFrom_91 rfl f_La_42 rfl (by first | assumption | exact ga G (by decide) rfl | exact lgA LG (by omega)) (by first | assumption | (simp (disch := omega) only [pI_eq, pI_row, pI_col, va_up_self, va_up_ne, ne_eq, not_false_eq_true] <;> rfl) | rfl) ?_
        | (with_reducible refine T_icmp_geN (tgt := 115) (pc1 := 97) (pc := 94) k_La_takeFrom_94 (by decide) (by decide) (by omega) (by omega) (fun hc => ?_) (fun hc => ?_) <;> first | (exfalso; omega) | skip)
        | refine T_icmp_ge_t (tgt := 115) (pc := 94) k_La_takeFrom_94 rfl (by decide) ?_
        | refine T_icmp_ge_f (tgt := 115) (pc1 := 97) (pc := 94) k_La_takeFrom_94 rfl rfl (by decide) ?_
        | refine T_icmp_ge (tgt := 115) (pc1 := 97) (pc := 94) k_La_takeFrom_94 rfl rfl (fun hc => ?_) (fun hc => ?_)
        | refine T_getR (pc1 := 101) (pc := 98) k_La_takeFrom_98 rfl f_La_38 rfl (by first | assumption | exact ga G (by decide) rfl | exact lgA LG (by omega)) (by first | assumption | exact gr G (by decide) rfl | exact lgR LG (by omega)) ?_
        | refine T_iload_n (pc1 := 102) (pc := 101) k_La_takeFrom_101 rfl rfl ?_
        | refine T_aload_n (pc1 := 103) (pc := 102) k_La_takeFrom_102 rfl rfl ?_
        | refine T_aload_nN (pc1 := 103) (pc := 102) k_La_takeFrom_102 rfl rfl ?_
        | refine T_getR (pc1 := 106) (pc := 103) k_La_takeFrom_103 rfl f_La_38 rfl (by first | assumption | exact ga G (by decide) rfl | exact lgA LG (by omega)) (by first | assumption | exact gr G (by decide) rfl | exact lgR LG (by omega)) ?_
        | refine T_iload_n (pc1 := 107) (pc := 106) k_La_takeFrom_106 rfl rfl ?_
        | refine T_aaldQ (e0 := 4) (pc1 := 108) (pc := 107) k_La_takeFrom_107 rfl (by first | assumption | exact ga G (by decide) rfl | exact lgA LG (by omega)) (by decide) (by omega) (by omega) (by first | assumption | exact gr G (by decide) rfl | exact lgR LG (by omega)) ?_
        | refine T_aaldQ (e0 := 0) (pc1 := 108) (pc := 107) k_La_takeFrom_107 rfl (by first | assumption | exact ga G (by decide) rfl | exact lgA LG (by omega)) (by decide) (by omega) (by omega) (by first | assumption | exact gr G (by decide) rfl | exact lgR LG (by omega)) ?_
        | refine T_aaldQ (e0 := 1) (pc1 := 108) (pc := 107) k_La_takeFrom_107 rfl (by first | assumption | exact ga G (by decide) rfl | exact lgA LG (by omega)) (by decide) (by omega) (by omega) (by first | assumption | exact gr G (by decide) rfl | exact lgR LG (by omega)) ?_
        | refine T_aaldQ (e0 := 2) (pc1 := 108) (pc := 107) k_La_takeFrom_107 rfl (by first | assumption | exact ga G (by decide) rfl | exact lgA LG (by omega)) (by decide) (by omega) (by omega) (by first | assumption | exact gr G (by decide) rfl | exact lgR LG (by omega)) ?_
        | refine T_aaldQ (e0 := 3) (pc1 := 108) (pc := 107) k_La_takeFrom_107 rfl (by first | assumption | exact ga G (by decide) rfl | exact lgA LG (by omega)) (by decide) (by omega) (by omega) (by first | assumption | exact gr G (by decide) rfl | exact lgR LG (by omega)) ?_
        | (refine T_aast (e0 := 1) (ci := 6) (pc1 := 109) (pc := 108) k_La_takeFrom_108 rfl rfl y3 (vp_in_nI (by omega) (by omega)) hpt ?_; rw [ct])
        | refine T_iincN (b := 1) (pc1 := 112) (pc := 109) k_La_takeFrom_109 rfl rfl (by decide) ?_
        | refine T_iinc (v := (nI 1)) (pc1 := 112) (pc := 109) k_La_takeFrom_109 rfl rfl (by decide) ?_
        | refine T_goto (tgt := 89) (pc := 112) k_La_takeFrom_112 rfl ?_)
      refine ih (t + 1) (gpR g' (a + 2) t (some p)) J (by omega) (GS_tr hg GS_p) (fun k hk => ?_) hJ x1 x2 x3 x4 x5 x6 x8 xb
      by_cases hkt : k = t
      · subst hkt; rw [gpR_eq]; exact hp.symm
      · rw [gpR_ne hkt]; exact hgt k (by omega)
  have bits : ∀ q b (J : IM), b + q = n → fre (lnd a) I J → J a 1 = nI n → (∀ j, j < b → ∀ k, k < 6 → J (a + 6 + j) k = bf N j k) → Rl 2 M_La_takeFrom 10 [some (.ref a), some (.ref c), some (.int (nI b))] [] g J K := by
    intro q
    induction q with
    | zero =>
      intro b J hb hJ x1 xb
      have hb : b = n := by omega
      subst hb
      have ec : J c = I c := hJ _ (fun q => by unfold lnd at q; omega)
      have d2 : J c 2 = N 3 := by rw [ec]; exact b2
      have d3 : J c 3 = N 4 := by rw [ec]; exact b3
      have d4 : J c 4 = N 1 := by rw [ec]; exact s1
      have d5 : J c 5 = N 2 := by rw [ec]; exact s2
      have d6 : J c 6 = N 0 := by rw [ec]; exact s3
      have d8 : J c 8 = nI tn := by rw [ec]; exact t2
      repeat' (first
        | (refine T_iload_n (pc1 := 11) (pc := 10) k_La_takeFrom_10 rfl rfl ?_ <;> try ((first | refine T_aload_n (pc1 := 12) (pc := 11) k_La_takeFrom_11 rfl rfl ?_ | refine T_aload_nN (pc1 := 12) (pc := 11) k_La_takeFrom_11 rfl rfl ?_) <;> try (refine T_getV (pc1 := 15) (pc := 12) k_La_takeFrom_12 rfl f_La_17 rfl (by first | assumption | exact ga G (by decide) rfl | exact lgA LG (by omega)) (by first | assumption | (simp (disch := omega) only [pI_eq, pI_row, pI_col, va_up_self, va_up_ne, ne_eq, not_false_eq_true, d2, d3, d4, d5, d6, d8] <;> rfl) | rfl) ?_ <;> try ((first | (with_reducible refine T_icmp_geN (tgt := 39) (pc1 := 18) (pc := 15) k_La_takeFrom_15 (by decide) (by decide) (by omega) (by omega) (fun hc => ?_) (fun hc => ?_) <;> first | (exfalso; omega) | skip) | refine T_icmp_ge_t (tgt := 39) (pc := 15) k_La_takeFrom_15 rfl (by decide) ?_ | refine T_icmp_ge_f (tgt := 39) (pc1 := 18) (pc := 15) k_La_takeFrom_15 rfl rfl (by decide) ?_ | refine T_icmp_ge (tgt := 39) (pc1 := 18) (pc := 15) k_La_takeFrom_15 rfl rfl (fun hc => ?_) (fun hc => ?_))))))
        | ((first | refine T_aload_n (pc1 := 40) (pc := 39) k_La_takeFrom_39 rfl rfl ?_ | refine T_aload_nN (pc1 := 40) (pc := 39) k_La_takeFrom_39 rfl rfl ?_) <;> try ((first | refine T_aload_n (pc1 := 41) (pc := 40) k_La_takeFrom_40 rfl rfl ?_ | refine T_aload_nN (pc1 := 41) (pc := 40) k_La_takeFrom_40 rfl rfl ?_) <;> try (refine T_getV (pc1 := 44) (pc := 41) k_La_takeFrom_41 rfl f_La_21 rfl (by first | assumption | exact ga G (by decide) rfl | exact lgA LG (by omega)) (by first | assumption | (simp (disch := omega) only [pI_eq, pI_row, pI_col, va_up_self, va_up_ne, ne_eq, not_false_eq_true, d2, d3, d4, d5, d6, d8] <;> rfl) | rfl) ?_ <;> try (refine T_putI (pc1 := 47) (pc := 44) k_La_takeFrom_44 rfl f_La_21 rfl (by first | assumption | exact ga G (by decide) rfl | exact lgA LG (by omega)) (by first | rfl | decide | assumption) (by first | rfl | decide | assumption) ?_ <;> try ((first | refine T_aload_n (pc1 := 48) (pc := 47) k_La_takeFrom_47 rfl rfl ?_ | refine T_aload_nN (pc1 := 48) (pc := 47) k_La_takeFrom_47 rfl rfl ?_) <;> try ((first | refine T_aload_n (pc1 := 49) (pc := 48) k_La_takeFrom_48 rfl rfl ?_ | refine T_aload_nN (pc1 := 49) (pc := 48) k_La_takeFrom_48 rfl rfl ?_) <;> try (refine T_getV (pc1 := 52) (pc := 49) k_La_takeFrom_49 rfl f_La_24 rfl (by first | assumption | exact ga G (by decide) rfl | exact lgA LG (by omega)) (by first | assumption | (simp (disch := omega) only [pI_eq, pI_row, pI_col, va_up_self, va_up_ne, ne_eq, not_false_eq_true, d2, d3, d4, d5, d6, d8] <;> rfl) | rfl) ?_ <;> try (refine T_putI (pc1 := 55) (pc := 52) k_La_takeFrom_52 rfl f_La_24 rfl (by first | assumption | exact ga G (by decide) rfl | exact lgA LG (by omega)) (by first | rfl | decide | assumption) (by first | rfl | decide | assumption) ?_ <;> try ((first | refine T_aload_n (pc1 := 56) (pc := 55) k_La_takeFrom_55 rfl rfl ?_ | refine T_aload_nN (pc1 := 56) (pc := 55) k_La_takeFrom_55 rfl rfl ?_) <;> try ((first | refine T_aload_n (pc1 := 57) (pc := 56) k_La_takeFrom_56 rfl rfl ?_ | refine T_aload_nN (pc1 := 57) (pc := 56) k_La_takeFrom_56 rfl rfl ?_) <;> try (refine T_getV (pc1 := 60) (pc := 57) k_La_takeFrom_57 rfl f_La_27 rfl (by first | assumption | exact ga G (by decide) rfl | exact lgA LG (by omega)) (by first | assumption | (simp (disch := omega) only [pI_eq, pI_row, pI_col, va_up_self, va_up_ne, ne_eq, not_false_eq_true, d2, d3, d4, d5, d6, d8] <;> rfl) | rfl) ?_ <;> try (refine T_putI (pc1 := 63) (pc := 60) k_La_takeFrom_60 rfl f_La_27 rfl (by first | assumption | exact ga G (by decide) rfl | exact lgA LG (by omega)) (by first | rfl | decide | assumption) (by first | rfl | decide | assumption) ?_ <;> try ((first | refine T_aload_n (pc1 := 64) (pc := 63) k_La_takeFrom_63 rfl rfl ?_ | refine T_aload_nN (pc1 := 64) (pc := 63) k_La_takeFrom_63 rfl rfl ?_) <;> try ((first | refine T_aload_n (pc1 := 65) (pc := 64) k_La_takeFrom_64 rfl rfl ?_ | refine T_aload_nN (pc1 := 65) (pc := 64) k_La_takeFrom_64 rfl rfl ?_)))))))))))))))
        | (refine T_getV (pc1 := 68) (pc := 65) k_La_takeFrom_65 rfl f_La_30 rfl (by first | assumption | exact ga G (by decide) rfl | exact lgA LG (by omega)) (by first | assumption | (simp (disch := omega) only [pI_eq, pI_row, pI_col, va_up_self, va_up_ne, ne_eq, not_false_eq_true, d2, d3, d4, d5, d6, d8] <;> rfl) | rfl) ?_ <;> try (refine T_putI (pc1 := 71) (pc := 68) k_La_takeFrom_68 rfl f_La_30 rfl (by first | assumption | exact ga G (by decide) rfl | exact lgA LG (by omega)) (by first | rfl | decide | assumption) (by first | rfl | decide | assumption) ?_ <;> try ((first | refine T_aload_n (pc1 := 72) (pc := 71) k_La_takeFrom_71 rfl rfl ?_ | refine T_aload_nN (pc1 := 72) (pc := 71) k_La_takeFrom_71 rfl rfl ?_) <;> try ((first | refine T_aload_n (pc1 := 73) (pc := 72) k_La_takeFrom_72 rfl rfl ?_ | refine T_aload_nN (pc1 := 73) (pc := 72) k_La_takeFrom_72 rfl rfl ?_) <;> try (refine T_getV (pc1 := 76) (pc := 73) k_La_takeFrom_73 rfl f_La_33 rfl (by first | assumption | exact ga G (by decide) rfl | exact lgA LG (by omega)) (by first | assumption | (simp (disch := omega) only [pI_eq, pI_row, pI_col, va_up_self, va_up_ne, ne_eq, not_false_eq_true, d2, d3, d4, d5, d6, d8] <;> rfl) | rfl) ?_ <;> try (refine T_putI (pc1 := 79) (pc := 76) k_La_takeFrom_76 rfl f_La_33 rfl (by first | assumption | exact ga G (by decide) rfl | exact lgA LG (by omega)) (by first | rfl | decide | assumption) (by first | rfl | decide | assumption) ?_ <;> try ((first | refine T_aload_n (pc1 := 80) (pc := 79) k_La_takeFrom_79 rfl rfl ?_ | refine T_aload_nN (pc1 := 80) (pc := 79) k_La_takeFrom_79 rfl rfl ?_) <;> try ((first | refine T_aload_n (pc1 := 81) (pc := 80) k_La_takeFrom_80 rfl rfl ?_ | refine T_aload_nN (pc1 := 81) (pc := 80) k_La_takeFrom_80 rfl rfl ?_) <;> try (refine T_getV (pc1 := 84) (pc := 81) k_La_takeFrom_81 rfl f_La_42 rfl (by first | assumption | exact ga G (by decide) rfl | exact lgA LG (by omega)) (by first | assumption | (simp (disch := omega) only [pI_eq, pI_row, pI_col, va_up_self, va_up_ne, ne_eq, not_false_eq_true, d2, d3, d4, d5, d6, d8] <;> rfl) | rfl) ?_ <;> try (refine T_putI (pc1 := 87) (pc := 84) k_La_takeFrom_84 rfl f_La_42 rfl (by first | assumption | exact ga G (by decide) rfl | exact lgA LG (by omega)) (by first | rfl | decide | assumption) (by first | rfl | decide | assumption) ?_ <;> try (refine T_iconst (v := (nI 0)) (pc1 := 88) (pc := 87) k_La_takeFrom_87 rfl (by decide) ?_ <;> try (refine T_istore_n (pc1 := 89) (pc := 88) k_La_takeFrom_88 rfl (Nat.le_of_ble_eq_true rfl) ?_))))))))))))
        | refine T_aload_n (pc1 := 12) (pc := 11) k_La_takeFrom_11 rfl rfl ?_
        | refine T_aload_nN (pc1 := 12) (pc := 11) k_La_takeFrom_11 rfl rfl ?_
        | refine T_getV (pc1 := 15) (pc := 12) k_La_takeFrom_12 rfl f_La_17 rfl (by first | assumption | exact ga G (by decide) rfl | exact lgA LG (by omega)) (by first | assumption | (simp (disch := omega) only [pI_eq, pI_row, pI_col, va_up_self, va_up_ne, ne_eq, not_false_eq_true, d2, d3, d4, d5, d6, d8] <;> rfl) | rfl) ?_
        | (with_reducible refine T_icmp_geN (tgt := 39) (pc1 := 18) (pc := 15) k_La_takeFrom_15 (by decide) (by decide) (by omega) (by omega) (fun hc => ?_) (fun hc => ?_) <;> first | (exfalso; omega) | skip)
        | refine T_icmp_ge_t (tgt := 39) (pc := 15) k_La_takeFrom_15 rfl (by decide) ?_
        | refine T_icmp_ge_f (tgt := 39) (pc1 := 18) (pc := 15) k_La_takeFrom_15 rfl rfl (by decide) ?_
        | refine T_icmp_ge (tgt := 39) (pc1 := 18) (pc := 15) k_La_takeFrom_15 rfl rfl (fun hc => ?_) (fun hc => ?_)
        | refine T_aload_n (pc1 := 41) (pc := 40) k_La_takeFrom_40 rfl rfl ?_
        | refine T_aload_nN (pc1 := 41) (pc := 40) k_La_takeFrom_40 rfl rfl ?_
        | refine T_getV (pc1 := 44) (pc := 41) k_La_takeFrom_41 rfl f_La_21 rfl (by first | assumption | exact ga G (by decide) rfl | exact lgA LG (by omega)) (by first | assumption | (simp (disch := omega) only [pI_eq, pI_row, pI_col, va_up_self, va_up_ne, ne_eq, not_false_eq_true, d2, d3, d4, d5, d6, d8] <;> rfl) | rfl) ?_
        | refine T_putI (pc1 := 47) (pc := 44) k_La_takeFrom_44 rfl f_La_21 rfl (by first | assumption | exact ga G (by decide) rfl | exact lgA LG (by omega)) (by first | rfl | decide | assumption) (by first | rfl | decide | assumption) ?_
        | refine T_aload_n (pc1 := 48) (pc := 47) k_La_takeFrom_47 rfl rfl ?_
        | refine T_aload_nN (pc1 := 48) (pc := 47) k_La_takeFrom_47 rfl rfl ?_
        | refine T_aload_n (pc1 := 49) (pc := 48) k_La_takeFrom_48 rfl rfl ?_
        | refine T_aload_nN (pc1 := 49) (pc := 48) k_La_takeFrom_48 rfl rfl ?_
        | refine T_getV (pc1 := 52) (pc := 49) k_La_takeFrom_49 rfl f_La_24 rfl (by first | assumption | exact ga G (by decide) rfl | exact lgA LG (by omega)) (by first | assumption | (simp (disch := omega) only [pI_eq, pI_row, pI_col, va_up_self, va_up_ne, ne_eq, not_false_eq_true, d2, d3, d4, d5, d6, d8] <;> rfl) | rfl) ?_
        | refine T_putI (pc1 := 55) (pc := 52) k_La_takeFrom_52 rfl f_La_24 rfl (by first | assumption | exact ga G (by decide) rfl | exact lgA LG (by omega)) (by first | rfl | decide | assumption) (by first | rfl | decide | assumption) ?_
        | refine T_aload_n (pc1 := 56) (pc := 55) k_La_takeFrom_55 rfl rfl ?_
        | refine T_aload_nN (pc1 := 56) (pc := 55) k_La_takeFrom_55 rfl rfl ?_
        | refine T_aload_n (pc1 := 57) (pc := 56) k_La_takeFrom_56 rfl rfl ?_
        | refine T_aload_nN (pc1 := 57) (pc := 56) k_La_takeFrom_56 rfl rfl ?_
        | refine T_getV (pc1 := 60) (pc := 57) k_La_takeFrom_57 rfl f_La_27 rfl (by first | assumption | exact ga G (by decide) rfl | exact lgA LG (by omega)) (by first | assumption | (simp (disch := omega) only [pI_eq, pI_row, pI_col, va_up_self, va_up_ne, ne_eq, not_false_eq_true, d2, d3, d4, d5, d6, d8] <;> rfl) | rfl) ?_
        | refine T_putI (pc1 := 63) (pc := 60) k_La_takeFrom_60 rfl f_La_27 rfl (by first | assumption | exact ga G (by decide) rfl | exact lgA LG (by omega)) (by first | rfl | decide | assumption) (by first | rfl | decide | assumption) ?_
        | refine T_aload_n (pc1 := 64) (pc := 63) k_La_takeFrom_63 rfl rfl ?_
        | refine T_aload_nN (pc1 := 64) (pc := 63) k_La_takeFrom_63 rfl rfl ?_
        | refine T_aload_n (pc1 := 65) (pc := 64) k_La_takeFrom_64 rfl rfl ?_
        | refine T_aload_nN (pc1 := 65) (pc := 64) k_La_takeFrom_64 rfl rfl ?_
        | refine T_putI (pc1 := 71) (pc := 68) k_La_takeFrom_68 rfl f_La_30 rfl (by first | assumption | exact ga G (by decide) rfl | exact lgA LG (by omega)) (by first | rfl | decide | assumption) (by first | rfl | decide | assumption) ?_
        | refine T_aload_n (pc1 := 72) (pc := 71) k_La_takeFrom_71 rfl rfl ?_
        | refine T_aload_nN (pc1 := 72) (pc := 71) k_La_takeFrom_71 rfl rfl ?_
        | refine T_aload_n (pc1 := 73) (pc := 72) k_La_takeFrom_72 rfl rfl ?_
        | refine T_aload_nN (pc1 := 73) (pc := 72) k_La_takeFrom_72 rfl rfl ?_
        | refine T_getV (pc1 := 76) (pc := 73) k_La_takeFrom_73 rfl f_La_33 rfl (by first | assumption | exact ga G (by decide) rfl | exact lgA LG (by omega)) (by first | assumption | (simp (disch := omega) only [pI_eq, pI_row, pI_col, va_up_self, va_up_ne, ne_eq, not_false_eq_true, d2, d3, d4, d5, d6, d8] <;> rfl) | rfl) ?_
        | refine T_putI (pc1 := 79) (pc := 76) k_La_takeFrom_76 rfl f_La_33 rfl (by first | assumption | exact ga G (by decide) rfl | exact lgA LG (by omega)) (by first | rfl | decide | assumption) (by first | rfl | decide | assumption) ?_
        | refine T_aload_n (pc1 := 80) (pc := 79) k_La_takeFrom_79 rfl rfl ?_
        | refine T_aload_nN (pc1 := 80) (pc := 79) k_La_takeFrom_79 rfl rfl ?_
        | refine T_aload_n (pc1 := 81) (pc := 80) k_La_takeFrom_80 rfl rfl ?_
        | refine T_aload_nN (pc1 := 81) (pc := 80) k_La_takeFrom_80 rfl rfl ?_
        | refine T_getV (pc1 := 84) (pc := 81) k_La_takeFrom_81 rfl f_La_42 rfl (by first | assumption | exact ga G (by decide) rfl | exact lgA LG (by omega)) (by first | assumption | (simp (disch := omega) only [pI_eq, pI_row, pI_col, va_up_self, va_up_ne, ne_eq, not_false_eq_true, d2, d3, d4, d5, d6, d8] <;> rfl) | rfl) ?_
        | refine T_putI (pc1 := 87) (pc := 84) k_La_takeFrom_84 rfl f_La_42 rfl (by first | assumption | exact ga G (by decide) rfl | exact lgA LG (by omega)) (by first | rfl | decide | assumption) (by first | rfl | decide | assumption) ?_
        | refine T_iconst (v := (nI 0)) (pc1 := 88) (pc := 87) k_La_takeFrom_87 rfl (by decide) ?_
        | refine T_istore_n (pc1 := 89) (pc := 88) k_La_takeFrom_88 rfl (Nat.le_of_ble_eq_true rfl) ?_)
      refine texts tn 0 g _ (by omega) GS_rf (fun k hk => absurd hk (Nat.not_lt_zero _)) (fr_pI (fr_pI (fr_pI (fr_pI (fr_pI (fr_pI hJ ⟨by omega, by omega⟩) ⟨by omega, by omega⟩) ⟨by omega, by omega⟩) ⟨by omega, by omega⟩) ⟨by omega, by omega⟩) ⟨by omega, by omega⟩) ?_ ?_ ?_ ?_ ?_ ?_ ?_ (fun j hj k hk => ?_)
      · simp (disch := decide) only [pI_eq, pI_col, ne_eq]; exact x1
      · simp (disch := decide) only [pI_eq, pI_col, ne_eq]
      · simp (disch := decide) only [pI_eq, pI_col, ne_eq]
      · simp (disch := decide) only [pI_eq, pI_col, ne_eq]
      · simp (disch := decide) only [pI_eq, pI_col, ne_eq]
      · simp (disch := decide) only [pI_eq, pI_col, ne_eq]
      · simp (disch := decide) only [pI_eq, pI_col, ne_eq]
      · rw [pI_row (by omega), pI_row (by omega), pI_row (by omega), pI_row (by omega), pI_row (by omega), pI_row (by omega)]
        exact xb j hj k hk
    | succ q ih =>
      intro b J hb hJ x1 xb
      have ga1 := lgA LG (show b < 14 by omega)
      have gc1 := lgA LC (show b < 14 by omega)
      have ra1 := lgR LG (show b < 14 by omega)
      have rc1 := lgR LC (show b < 14 by omega)
      refine T_iload_n (pc1 := 11) (pc := 10) k_La_takeFrom_10 rfl rfl ?_
      repeat' (first
        | ((first | refine T_aload_n (pc1 := 12) (pc := 11) k_La_takeFrom_11 rfl rfl ?_ | refine T_aload_nN (pc1 := 12) (pc := 11) k_La_takeFrom_11 rfl rfl ?_) <;> try (refine T_getV (pc1 := 15) (pc := 12) k_La_takeFrom_12 rfl f_La_17 rfl (by first | assumption | exact ga G (by decide) rfl | exact lgA LG (by omega)) (by first | assumption | (simp (disch := omega) only [pI_eq, pI_row, pI_col, va_up_self, va_up_ne, ne_eq, not_false_eq_true] <;> rfl) | rfl) ?_ <;> try ((first | (with_reducible refine T_icmp_geN (tgt := 39) (pc1 := 18) (pc := 15) k_La_takeFrom_15 (by decide) (by decide) (by omega) (by omega) (fun hc => ?_) (fun hc => ?_) <;> first | (exfalso; omega) | skip) | refine T_icmp_ge_t (tgt := 39) (pc := 15) k_La_takeFrom_15 rfl (by decide) ?_ | refine T_icmp_ge_f (tgt := 39) (pc1 := 18) (pc := 15) k_La_takeFrom_15 rfl rfl (by decide) ?_ | refine T_icmp_ge (tgt := 39) (pc1 := 18) (pc := 15) k_La_takeFrom_15 rfl rfl (fun hc => ?_) (fun hc => ?_)))))
        | ((first | refine T_aload_n (pc1 := 19) (pc := 18) k_La_takeFrom_18 rfl rfl ?_ | refine T_aload_nN (pc1 := 19) (pc := 18) k_La_takeFrom_18 rfl rfl ?_) <;> try (refine T_getR (pc1 := 22) (pc := 19) k_La_takeFrom_19 rfl f_La_11 rfl (by first | assumption | exact ga G (by decide) rfl | exact lgA LG (by omega)) (by first | assumption | exact gr G (by decide) rfl | exact lgR LG (by omega)) ?_ <;> try (refine T_iload_n (pc1 := 23) (pc := 22) k_La_takeFrom_22 rfl rfl ?_ <;> try ((first | refine T_aaldQ (e0 := 4) (pc1 := 24) (pc := 23) k_La_takeFrom_23 rfl (by first | assumption | exact ga G (by decide) rfl | exact lgA LG (by omega)) (by decide) (by omega) (by omega) (by first | assumption | exact gr G (by decide) rfl | exact lgR LG (by omega)) ?_ | refine T_aaldQ (e0 := 0) (pc1 := 24) (pc := 23) k_La_takeFrom_23 rfl (by first | assumption | exact ga G (by decide) rfl | exact lgA LG (by omega)) (by decide) (by omega) (by omega) (by first | assumption | exact gr G (by decide) rfl | exact lgR LG (by omega)) ?_ | refine T_aaldQ (e0 := 1) (pc1 := 24) (pc := 23) k_La_takeFrom_23 rfl (by first | assumption | exact ga G (by decide) rfl | exact lgA LG (by omega)) (by decide) (by omega) (by omega) (by first | assumption | exact gr G (by decide) rfl | exact lgR LG (by omega)) ?_ | refine T_aaldQ (e0 := 2) (pc1 := 24) (pc := 23) k_La_takeFrom_23 rfl (by first | assumption | exact ga G (by decide) rfl | exact lgA LG (by omega)) (by decide) (by omega) (by omega) (by first | assumption | exact gr G (by decide) rfl | exact lgR LG (by omega)) ?_ | refine T_aaldQ (e0 := 3) (pc1 := 24) (pc := 23) k_La_takeFrom_23 rfl (by first | assumption | exact ga G (by decide) rfl | exact lgA LG (by omega)) (by decide) (by omega) (by omega) (by first | assumption | exact gr G (by decide) rfl | exact lgR LG (by omega)) ?_) <;> try ((first | refine T_aload_n (pc1 := 25) (pc := 24) k_La_takeFrom_24 rfl rfl ?_ | refine T_aload_nN (pc1 := 25) (pc := 24) k_La_takeFrom_24 rfl rfl ?_) <;> try (refine T_getR (pc1 := 28) (pc := 25) k_La_takeFrom_25 rfl f_La_11 rfl (by first | assumption | exact ga G (by decide) rfl | exact lgA LG (by omega)) (by first | assumption | exact gr G (by decide) rfl | exact lgR LG (by omega)) ?_ <;> try (refine T_iload_n (pc1 := 29) (pc := 28) k_La_takeFrom_28 rfl rfl ?_ <;> try ((first | refine T_aaldQ (e0 := 4) (pc1 := 30) (pc := 29) k_La_takeFrom_29 rfl (by first | assumption | exact ga G (by decide) rfl | exact lgA LG (by omega)) (by decide) (by omega) (by omega) (by first | assumption | exact gr G (by decide) rfl | exact lgR LG (by omega)) ?_ | refine T_aaldQ (e0 := 0) (pc1 := 30) (pc := 29) k_La_takeFrom_29 rfl (by first | assumption | exact ga G (by decide) rfl | exact lgA LG (by omega)) (by decide) (by omega) (by omega) (by first | assumption | exact gr G (by decide) rfl | exact lgR LG (by omega)) ?_ | refine T_aaldQ (e0 := 1) (pc1 := 30) (pc := 29) k_La_takeFrom_29 rfl (by first | assumption | exact ga G (by decide) rfl | exact lgA LG (by omega)) (by decide) (by omega) (by omega) (by first | assumption | exact gr G (by decide) rfl | exact lgR LG (by omega)) ?_ | refine T_aaldQ (e0 := 2) (pc1 := 30) (pc := 29) k_La_takeFrom_29 rfl (by first | assumption | exact ga G (by decide) rfl | exact lgA LG (by omega)) (by decide) (by omega) (by omega) (by first | assumption | exact gr G (by decide) rfl | exact lgR LG (by omega)) ?_ | refine T_aaldQ (e0 := 3) (pc1 := 30) (pc := 29) k_La_takeFrom_29 rfl (by first | assumption | exact ga G (by decide) rfl | exact lgA LG (by omega)) (by decide) (by omega) (by omega) (by first | assumption | exact gr G (by decide) rfl | exact lgR LG (by omega)) ?_) <;> try ((refine T_cV (As := [_]) (d1 := 1) (pc1 := 33) (pc := 30) k_La_takeFrom_30 rfl (by decide) (Nat.le_of_ble_eq_true rfl) rfl o_B_takeFrom l_La_58 rfl (by first | assumption | exact ga G (by decide) rfl | exact lgA LG (by omega)) rfl (c_B_takeFrom ga1 gc1 (by omega) (fun J2 hJ2 hv => ?_)) <;> try dsimp only [psh]) <;> try ((first | refine T_iincN (b := 1) (pc1 := 36) (pc := 33) k_La_takeFrom_33 rfl rfl (by decide) ?_ | refine T_iinc (v := (nI 1)) (pc1 := 36) (pc := 33) k_La_takeFrom_33 rfl rfl (by decide) ?_) <;> try (refine T_goto (tgt := 10) (pc := 36) k_La_takeFrom_36 rfl ?_)))))))))))
        | refine T_getV (pc1 := 15) (pc := 12) k_La_takeFrom_12 rfl f_La_17 rfl (by first | assumption | exact ga G (by decide) rfl | exact lgA LG (by omega)) (by first | assumption | (simp (disch := omega) only [pI_eq, pI_row, pI_col, va_up_self, va_up_ne, ne_eq, not_false_eq_true] <;> rfl) | rfl) ?_
        | (with_reducible refine T_icmp_geN (tgt := 39) (pc1 := 18) (pc := 15) k_La_takeFrom_15 (by decide) (by decide) (by omega) (by omega) (fun hc => ?_) (fun hc => ?_) <;> first | (exfalso; omega) | skip)
        | refine T_icmp_ge_t (tgt := 39) (pc := 15) k_La_takeFrom_15 rfl (by decide) ?_
        | refine T_icmp_ge_f (tgt := 39) (pc1 := 18) (pc := 15) k_La_takeFrom_15 rfl rfl (by decide) ?_
        | refine T_icmp_ge (tgt := 39) (pc1 := 18) (pc := 15) k_La_takeFrom_15 rfl rfl (fun hc => ?_) (fun hc => ?_)
        | refine T_getR (pc1 := 22) (pc := 19) k_La_takeFrom_19 rfl f_La_11 rfl (by first | assumption | exact ga G (by decide) rfl | exact lgA LG (by omega)) (by first | assumption | exact gr G (by decide) rfl | exact lgR LG (by omega)) ?_
        | refine T_iload_n (pc1 := 23) (pc := 22) k_La_takeFrom_22 rfl rfl ?_
        | refine T_aaldQ (e0 := 4) (pc1 := 24) (pc := 23) k_La_takeFrom_23 rfl (by first | assumption | exact ga G (by decide) rfl | exact lgA LG (by omega)) (by decide) (by omega) (by omega) (by first | assumption | exact gr G (by decide) rfl | exact lgR LG (by omega)) ?_
        | refine T_aaldQ (e0 := 0) (pc1 := 24) (pc := 23) k_La_takeFrom_23 rfl (by first | assumption | exact ga G (by decide) rfl | exact lgA LG (by omega)) (by decide) (by omega) (by omega) (by first | assumption | exact gr G (by decide) rfl | exact lgR LG (by omega)) ?_
        | refine T_aaldQ (e0 := 1) (pc1 := 24) (pc := 23) k_La_takeFrom_23 rfl (by first | assumption | exact ga G (by decide) rfl | exact lgA LG (by omega)) (by decide) (by omega) (by omega) (by first | assumption | exact gr G (by decide) rfl | exact lgR LG (by omega)) ?_
        | refine T_aaldQ (e0 := 2) (pc1 := 24) (pc := 23) k_La_takeFrom_23 rfl (by first | assumption | exact ga G (by decide) rfl | exact lgA LG (by omega)) (by decide) (by omega) (by omega) (by first | assumption | exact gr G (by decide) rfl | exact lgR LG (by omega)) ?_
        | refine T_aaldQ (e0 := 3) (pc1 := 24) (pc := 23) k_La_takeFrom_23 rfl (by first | assumption | exact ga G (by decide) rfl | exact lgA LG (by omega)) (by decide) (by omega) (by omega) (by first | assumption | exact gr G (by decide) rfl | exact lgR LG (by omega)) ?_
        | refine T_aload_n (pc1 := 25) (pc := 24) k_La_takeFrom_24 rfl rfl ?_
        | refine T_aload_nN (pc1 := 25) (pc := 24) k_La_takeFrom_24 rfl rfl ?_
        | refine T_getR (pc1 := 28) (pc := 25) k_La_takeFrom_25 rfl f_La_11 rfl (by first | assumption | exact ga G (by decide) rfl | exact lgA LG (by omega)) (by first | assumption | exact gr G (by decide) rfl | exact lgR LG (by omega)) ?_
        | refine T_iload_n (pc1 := 29) (pc := 28) k_La_takeFrom_28 rfl rfl ?_
        | refine T_aaldQ (e0 := 4) (pc1 := 30) (pc := 29) k_La_takeFrom_29 rfl (by first | assumption | exact ga G (by decide) rfl | exact lgA LG (by omega)) (by decide) (by omega) (by omega) (by first | assumption | exact gr G (by decide) rfl | exact lgR LG (by omega)) ?_
        | refine T_aaldQ (e0 := 0) (pc1 := 30) (pc := 29) k_La_takeFrom_29 rfl (by first | assumption | exact ga G (by decide) rfl | exact lgA LG (by omega)) (by decide) (by omega) (by omega) (by first | assumption | exact gr G (by decide) rfl | exact lgR LG (by omega)) ?_
        | refine T_aaldQ (e0 := 1) (pc1 := 30) (pc := 29) k_La_takeFrom_29 rfl (by first | assumption | exact ga G (by decide) rfl | exact lgA LG (by omega)) (by decide) (by omega) (by omega) (by first | assumption | exact gr G (by decide) rfl | exact lgR LG (by omega)) ?_
        | refine T_aaldQ (e0 := 2) (pc1 := 30) (pc := 29) k_La_takeFrom_29 rfl (by first | assumption | exact ga G (by decide) rfl | exact lgA LG (by omega)) (by decide) (by omega) (by omega) (by first | assumption | exact gr G (by decide) rfl | exact lgR LG (by omega)) ?_
        | refine T_aaldQ (e0 := 3) (pc1 := 30) (pc := 29) k_La_takeFrom_29 rfl (by first | assumption | exact ga G (by decide) rfl | exact lgA LG (by omega)) (by decide) (by omega) (by omega) (by first | assumption | exact gr G (by decide) rfl | exact lgR LG (by omega)) ?_
        | (refine T_cV (As := [_]) (d1 := 1) (pc1 := 33) (pc := 30) k_La_takeFrom_30 rfl (by decide) (Nat.le_of_ble_eq_true rfl) rfl o_B_takeFrom l_La_58 rfl (by first | assumption | exact ga G (by decide) rfl | exact lgA LG (by omega)) rfl (c_B_takeFrom ga1 gc1 (by omega) (fun J2 hJ2 hv => ?_)) <;> try dsimp only [psh])
        | refine T_iincN (b := 1) (pc1 := 36) (pc := 33) k_La_takeFrom_33 rfl rfl (by decide) ?_
        | refine T_iinc (v := (nI 1)) (pc1 := 36) (pc := 33) k_La_takeFrom_33 rfl rfl (by decide) ?_
        | refine T_goto (tgt := 10) (pc := 36) k_La_takeFrom_36 rfl ?_)
      have nb : ∀ i, i ≠ a + 6 + b → J2 i = J i := fun i hi => hJ2 i (by simpa using hi)
      refine ih (b + 1) J2 (by omega) (fun i hi => ?_) (by rw [nb _ (by omega)]; exact x1) (fun j hj k hk => ?_)
      · rw [nb i (fun q => hi (by unfold lnd; omega))]; exact hJ i hi
      · by_cases hjb : j = b
        · subst hjb
          rw [hv k hk, hJ _ (fun q => by unfold lnd at q; omega)]
          exact b4 j (by omega) k hk
        · rw [nb _ (by omega)]; exact xb j (by omega) k hk
  repeat' (first
    | ((first | refine T_aload_n (pc1 := 1) (pc := 0) k_La_takeFrom_0 rfl rfl ?_ | refine T_aload_nN (pc1 := 1) (pc := 0) k_La_takeFrom_0 rfl rfl ?_) <;> try ((first | refine T_aload_n (pc1 := 2) (pc := 1) k_La_takeFrom_1 rfl rfl ?_ | refine T_aload_nN (pc1 := 2) (pc := 1) k_La_takeFrom_1 rfl rfl ?_) <;> try (refine T_getV (pc1 := 5) (pc := 2) k_La_takeFrom_2 rfl f_La_17 rfl (by first | assumption | exact ga G (by decide) rfl | exact lgA LG (by omega)) (by first | assumption | (simp (disch := omega) only [pI_eq, pI_row, pI_col, va_up_self, va_up_ne, ne_eq, not_false_eq_true, b1] <;> rfl) | rfl) ?_ <;> try (refine T_putI (pc1 := 8) (pc := 5) k_La_takeFrom_5 rfl f_La_17 rfl (by first | assumption | exact ga G (by decide) rfl | exact lgA LG (by omega)) (by first | rfl | decide | assumption) (by first | rfl | decide | assumption) ?_ <;> try (refine T_iconst (v := (nI 0)) (pc1 := 9) (pc := 8) k_La_takeFrom_8 rfl (by decide) ?_ <;> try (refine T_istore_n (pc1 := 10) (pc := 9) k_La_takeFrom_9 rfl (Nat.le_of_ble_eq_true rfl) ?_))))))
    | refine T_aload_n (pc1 := 2) (pc := 1) k_La_takeFrom_1 rfl rfl ?_
    | refine T_aload_nN (pc1 := 2) (pc := 1) k_La_takeFrom_1 rfl rfl ?_
    | refine T_getV (pc1 := 5) (pc := 2) k_La_takeFrom_2 rfl f_La_17 rfl (by first | assumption | exact ga G (by decide) rfl | exact lgA LG (by omega)) (by first | assumption | (simp (disch := omega) only [pI_eq, pI_row, pI_col, va_up_self, va_up_ne, ne_eq, not_false_eq_true, b1] <;> rfl) | rfl) ?_
    | refine T_putI (pc1 := 8) (pc := 5) k_La_takeFrom_5 rfl f_La_17 rfl (by first | assumption | exact ga G (by decide) rfl | exact lgA LG (by omega)) (by first | rfl | decide | assumption) (by first | rfl | decide | assumption) ?_
    | refine T_iconst (v := (nI 0)) (pc1 := 9) (pc := 8) k_La_takeFrom_8 rfl (by decide) ?_
    | refine T_istore_n (pc1 := 10) (pc := 9) k_La_takeFrom_9 rfl (Nat.le_of_ble_eq_true rfl) ?_)
  exact bits n 0 _ (by omega) (fr_pI fr_rf ⟨by omega, by omega⟩) pI_eq (fun j hj => absurd hj (Nat.not_lt_zero _))
end C7
