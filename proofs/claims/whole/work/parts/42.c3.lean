/-! The class: a land in the cells a .. a+19, its texts; what a bit takes, what is thought of it. -/
section PC1
def LandG (g : Geo) (a : Nat) : Prop := isAg g a 1 11 ∧ isAg g (a + 1) 101 14 ∧ isAg g (a + 2) 102 14 ∧ isAg g (a + 3) 100 3 ∧ isAg g (a + 4) 7 6 ∧ isAg g (a + 5) 100 60 ∧ (∀ b, b < 14 → isAg g (a + 6 + b) 0 6) ∧ gR g a 0 = some (a + 1) ∧ gR g a 7 = some (a + 2) ∧ gR g a 9 = some (a + 3) ∧ gR g a 10 = some (a + 4) ∧ gR g (a + 4) 5 = some (a + 5) ∧ (∀ b, b < 14 → gR g (a + 1) b = some (a + 6 + b)) ∧ a + 20 ≤ 61
theorem lgA {g : Geo} {a b : Nat} (L : LandG g a) (h : b < 14) : isAg g (a + 6 + b) 0 6 := L.2.2.2.2.2.2.1 b h
theorem lgR {g : Geo} {a b : Nat} (L : LandG g a) (h : b < 14) : gR g (a + 1) b = some (a + 6 + b) := L.2.2.2.2.2.2.2.2.2.2.2.2.1 b h
theorem land_1 {g : Geo} (G : GeoOK g) : LandG g 1 := by
  have h : ∀ b, b < 14 → kd0 (1 + 6 + b) = (0, 6) := by decide
  have h2 : ∀ b, b < 14 → R0 (1 + 1) b = some (1 + 6 + b) := by decide
  exact ⟨ga G (by decide) rfl, ga G (by decide) rfl, ga G (by decide) rfl, ga G (by decide) rfl, ga G (by decide) rfl, ga G (by decide) rfl, fun b hb => ga G (by omega) (h b hb), gr G (by decide) rfl, gr G (by decide) rfl, gr G (by decide) rfl, gr G (by decide) rfl, gr G (by decide) rfl, fun b hb => gr G (by decide) (h2 b hb), by decide⟩
theorem land_21 {g : Geo} (G : GeoOK g) : LandG g 21 := by
  have h : ∀ b, b < 14 → kd0 (21 + 6 + b) = (0, 6) := by decide
  have h2 : ∀ b, b < 14 → R0 (21 + 1) b = some (21 + 6 + b) := by decide
  exact ⟨ga G (by decide) rfl, ga G (by decide) rfl, ga G (by decide) rfl, ga G (by decide) rfl, ga G (by decide) rfl, ga G (by decide) rfl, fun b hb => ga G (by omega) (h b hb), gr G (by decide) rfl, gr G (by decide) rfl, gr G (by decide) rfl, gr G (by decide) rfl, gr G (by decide) rfl, fun b hb => gr G (by decide) (h2 b hb), by decide⟩
theorem land_41 {g : Geo} (G : GeoOK g) : LandG g 41 := by
  have h : ∀ b, b < 14 → kd0 (41 + 6 + b) = (0, 6) := by decide
  have h2 : ∀ b, b < 14 → R0 (41 + 1) b = some (41 + 6 + b) := by decide
  exact ⟨ga G (by decide) rfl, ga G (by decide) rfl, ga G (by decide) rfl, ga G (by decide) rfl, ga G (by decide) rfl, ga G (by decide) rfl, fun b hb => ga G (by omega) (h b hb), gr G (by decide) rfl, gr G (by decide) rfl, gr G (by decide) rfl, gr G (by decide) rfl, gr G (by decide) rfl, fun b hb => gr G (by decide) (h2 b hb), by decide⟩
/-- only the cells of P may differ -/
def fre (P : Nat → Prop) (I J : IM) : Prop := ∀ i, ¬ P i → J i = I i
theorem fr_rf {P : Nat → Prop} {I : IM} : fre P I I := fun _ _ => rfl
theorem fr_tr {P : Nat → Prop} {I J L : IM} (h1 : fre P I J) (h2 : fre P J L) : fre P I L := fun i hi => (h2 i hi).trans (h1 i hi)
theorem fr_mono {P Q : Nat → Prop} {I J : IM} (h : fre P I J) (hq : ∀ i, P i → Q i) : fre Q I J := fun i hi => h i (fun p => hi (hq i p))
theorem fr_pI {P : Nat → Prop} {I J : IM} {i k : Nat} {v : Int32} (h : fre P I J) (hi : P i) : fre P I (pI J i k v) := fun j hj => (pI_rw (fun q : j = i => hj (q ▸ hi))).trans (h j hj)
theorem fr_up {P : Nat → Prop} {I J : IM} {i : Nat} {w : Row} (h : fre P I J) (hi : P i) : fre P I (va_up J i w) := fun j hj => (va_up_ne _ _ (fun q : j = i => hj (q ▸ hi))).trans (h j hj)
theorem fr_x {P : Nat → Prop} {S : List Nat} {I J : IM} (h : eqx S I J) (hs : ∀ i, i ∈ S → P i) : fre P I J := fun i hi => h i (fun q => hi (hs i q))
def stk (i : Nat) : Prop := 121 ≤ i ∧ i % 3 = 0
def lnd (a i : Nat) : Prop := a ≤ i ∧ i < a + 20
def TxR (g : Geo) (I : IM) (N : Row) (t q : Nat) : Prop := 121 ≤ q ∧ q % 3 = 1 ∧ isAg g q 6 4 ∧ gR g q 2 = some (q + 1) ∧ gR g q 3 = some (q + 2) ∧ I q 0 = N (156 + 100 * t) ∧ I q 1 = N (157 + 100 * t) ∧ isAg g (q + 1) 100 (N (158 + 100 * t)).toNatClampNeg ∧ isAg g (q + 2) 100 (N (157 + 100 * t)).toNatClampNeg ∧ ∀ k, k < (N (158 + 100 * t)).toNatClampNeg → I (q + 1) k = trc (cod N t k)
theorem TxR_fr {P : Nat → Prop} {g : Geo} {I J : IM} {N N' : Row} {t q : Nat} (h : TxR g I N t q) (hf : fre P I J) (hP : ∀ i, P i → i < 121 ∨ stk i) (hN : ∀ k, 156 ≤ k → N' k = N k) : TxR g J N' t q := by
  obtain ⟨h1, h2, h3, h4, h5, h6, h7, h8, h9, h10⟩ := h
  have e0 : J q = I q := hf q (fun p => by rcases hP q p with z | z; omega; unfold stk at z; omega)
  have e1 : J (q + 1) = I (q + 1) := hf (q + 1) (fun p => by rcases hP _ p with z | z; omega; unfold stk at z; omega)
  refine ⟨h1, h2, h3, h4, h5, ?_, ?_, ?_, ?_, ?_⟩
  · rw [e0, hN _ (by omega)]; exact h6
  · rw [e0, hN _ (by omega)]; exact h7
  · rw [hN _ (by omega)]; exact h8
  · rw [hN _ (by omega)]; exact h9
  · rw [hN _ (by omega), e1, cod_agr hN]; exact h10
def LTx (g : Geo) (I : IM) (a : Nat) (N : Row) (tn : Nat) : Prop := (∀ key, key < 3 → I (a + 3) key = oNo (txt N key tn)) ∧ I a 8 = nI tn ∧ ∀ t, t < tn → ∃ q, gR g (a + 2) t = some q ∧ TxR g I N t q
def LBt (I : IM) (a : Nat) (N : Row) (n : Nat) : Prop := I a 1 = nI n ∧ I a 2 = N 3 ∧ I a 3 = N 4 ∧ ∀ b, b < n → ∀ k, k < 6 → I (a + 6 + b) k = bf N b k
def LWk (I : IM) (a : Nat) (N : Row) : Prop := I (a + 4) 0 = N 7 ∧ I (a + 4) 1 = N 8 ∧ I (a + 4) 2 = N 9 ∧ I (a + 4) 3 = N 10 ∧ I (a + 4) 4 = N 11 ∧ ∀ i, i < (N 9).toNatClampNeg → I (a + 5) i = N (96 + i)
def LSc (I : IM) (a : Nat) (N : Row) : Prop := I a 4 = N 1 ∧ I a 5 = N 2 ∧ I a 6 = N 0
/-- the land in a is the row N -/
def LaR (g : Geo) (I : IM) (a : Nat) (N : Row) (n tn : Nat) : Prop := LTx g I a N tn ∧ LBt I a N n ∧ LWk I a N ∧ LSc I a N
theorem LTx_fr {P : Nat → Prop} {g : Geo} {I J : IM} {a : Nat} {N N' : Row} {tn : Nat} (h : LTx g I a N tn) (hf : fre P I J) (hP : ∀ i, P i → i < 121 ∨ stk i) (h3 : J (a + 3) = I (a + 3)) (h8 : J a 8 = I a 8) (hN : ∀ k, 156 ≤ k → N' k = N k) : LTx g J a N' tn := by
  obtain ⟨k1, k2, k3⟩ := h
  refine ⟨fun key hk => by rw [h3, txt_agr hN]; exact k1 key hk, h8.trans k2, fun t ht => ?_⟩
  obtain ⟨q, hq, hx⟩ := k3 t ht
  exact ⟨q, hq, TxR_fr hx hf hP hN⟩
end PC1
section C3
variable {g : Geo} {I : IM} {K : Option Value → Geo → IM → Prop}
theorem c_La_has {a n : Nat} {v : Int32} (hA : isAg g a 1 11) (hn : I a 1 = nI n) (h14 : n ≤ 14) (kt : rg n v → K (some (.int (nI 1))) g I) (kf : ¬ rg n v → K (some (.int (nI 0))) g I) : Cl 2 M_La_has [.ref a, .int v] g I K := by
  show Rl 2 M_La_has 0 [some (.ref a), some (.int v)] [] g I K
  have e0 : (nI 0).toInt = 0 := rfl
  have e1 := sub1_toInt (n := n) (by omega)
  repeat' (first
    | (refine T_iload_n (pc1 := 1) (pc := 0) k_La_has_0 rfl rfl ?_ <;> try (refine T_iconst (v := (nI 0)) (pc1 := 2) (pc := 1) k_La_has_1 rfl (by decide) ?_ <;> try ((first | refine T_aload_n (pc1 := 3) (pc := 2) k_La_has_2 rfl rfl ?_ | refine T_aload_nN (pc1 := 3) (pc := 2) k_La_has_2 rfl rfl ?_) <;> try (refine T_getV (pc1 := 6) (pc := 3) k_La_has_3 rfl f_La_17 rfl (by first | assumption | exact ga G (by decide) rfl | exact lgA LG (by omega)) (by first | assumption | (simp (disch := omega) only [pI_eq, pI_row, pI_col, va_up_self, va_up_ne, ne_eq, not_false_eq_true] <;> rfl) | rfl) ?_ <;> try (refine T_iconst (v := (nI 1)) (pc1 := 7) (pc := 6) k_La_has_6 rfl (by decide) ?_ <;> try (refine T_isub (pc1 := 8) (pc := 7) k_La_has_7 rfl ?_ <;> try ((refine T_cN (As := [_, _, _]) (d1 := 1) (pc1 := 11) (pc := 8) k_La_has_8 rfl (by decide) (Nat.le_of_ble_eq_true rfl) rfl o_S_isWithin l_La_71 rfl (c_S_isWithin (fun hw => ?_) (fun hw => ?_)) <;> try dsimp only [psh]) <;> try (refine T_retI (pc := 11) k_La_has_11 rfl (by first | rfl | decide | assumption) ?_))))))))
    | refine T_iconst (v := (nI 0)) (pc1 := 2) (pc := 1) k_La_has_1 rfl (by decide) ?_
    | refine T_aload_n (pc1 := 3) (pc := 2) k_La_has_2 rfl rfl ?_
    | refine T_aload_nN (pc1 := 3) (pc := 2) k_La_has_2 rfl rfl ?_
    | refine T_getV (pc1 := 6) (pc := 3) k_La_has_3 rfl f_La_17 rfl (by first | assumption | exact ga G (by decide) rfl | exact lgA LG (by omega)) (by first | assumption | (simp (disch := omega) only [pI_eq, pI_row, pI_col, va_up_self, va_up_ne, ne_eq, not_false_eq_true] <;> rfl) | rfl) ?_
    | refine T_iconst (v := (nI 1)) (pc1 := 7) (pc := 6) k_La_has_6 rfl (by decide) ?_
    | refine T_isub (pc1 := 8) (pc := 7) k_La_has_7 rfl ?_
    | (refine T_cN (As := [_, _, _]) (d1 := 1) (pc1 := 11) (pc := 8) k_La_has_8 rfl (by decide) (Nat.le_of_ble_eq_true rfl) rfl o_S_isWithin l_La_71 rfl (c_S_isWithin (fun hw => ?_) (fun hw => ?_)) <;> try dsimp only [psh])
    | refine T_retI (pc := 11) k_La_has_11 rfl (by first | rfl | decide | assumption) ?_)
  · exact kt (by constructor <;> omega)
  · exact kf (fun h => hw (by constructor <;> omega))
theorem c_La_textAt {a n tn : Nat} {N : Row} {v : Int32} (LG : LandG g a) (ok : okL N n tn) (LT : LTx g I a N tn) (k0 : ¬ rg tn v → K (some .null) g I) (k1 : ∀ j q, v = nI j → j < tn → TxR g I N j q → K (some (.ref q)) g I) : Cl 2 M_La_textAt [.ref a, .int v] g I K := by
  show Rl 2 M_La_textAt 0 [some (.ref a), some (.int v)] [] g I K
  obtain ⟨g1, g2, g3, g4, g5, g6, g7, g8, g9, g10, g11, g12, g13, g14⟩ := id LG
  obtain ⟨l1, l2, l3⟩ := id LT
  have h14 := ok.2.2.2.1
  have e0 : (nI 0).toInt = 0 := rfl
  have e1 := sub1_toInt (n := tn) (by omega)
  by_cases hv : rg tn v
  · obtain ⟨j, hj, rfl⟩ := rg_of hv (by omega)
    obtain ⟨q, hq, hx⟩ := l3 j hj
    have := hv.1
    have := hv.2
    repeat' (first
      | (refine T_iload_n (pc1 := 1) (pc := 0) k_La_textAt_0 rfl rfl ?_ <;> try (refine T_iconst (v := (nI 0)) (pc1 := 2) (pc := 1) k_La_textAt_1 rfl (by decide) ?_ <;> try ((first | refine T_aload_n (pc1 := 3) (pc := 2) k_La_textAt_2 rfl rfl ?_ | refine T_aload_nN (pc1 := 3) (pc := 2) k_La_textAt_2 rfl rfl ?_) <;> try (refine T_getV (pc1 := 6) (pc := 3) k_La_textAt_3 rfl f_La_42 rfl (by first | assumption | exact ga G (by decide) rfl | exact lgA LG (by omega)) (by first | assumption | (simp (disch := omega) only [pI_eq, pI_row, pI_col, va_up_self, va_up_ne, ne_eq, not_false_eq_true] <;> rfl) | rfl) ?_ <;> try (refine T_iconst (v := (nI 1)) (pc1 := 7) (pc := 6) k_La_textAt_6 rfl (by decide) ?_ <;> try (refine T_isub (pc1 := 8) (pc := 7) k_La_textAt_7 rfl ?_ <;> try ((refine T_cN (As := [_, _, _]) (d1 := 1) (pc1 := 11) (pc := 8) k_La_textAt_8 rfl (by decide) (Nat.le_of_ble_eq_true rfl) rfl o_S_isWithin l_La_71 rfl (c_S_isWithin (fun hw => ?_) (fun hw => ?_)) <;> try dsimp only [psh]) <;> try ((first | (with_reducible refine T_if_eqN (tgt := 23) (pc1 := 14) (pc := 11) k_La_textAt_11 (by decide) (by decide) (by omega) (fun hc => ?_) (fun hc => ?_) <;> first | (exfalso; omega) | skip) | refine T_if_eq_t (tgt := 23) (pc := 11) k_La_textAt_11 rfl (by decide) ?_ | refine T_if_eq_f (tgt := 23) (pc1 := 14) (pc := 11) k_La_textAt_11 rfl rfl (by decide) ?_ | refine T_if_eq (tgt := 23) (pc1 := 14) (pc := 11) k_La_textAt_11 rfl rfl (fun hc => ?_) (fun hc => ?_))))))))))
      | ((first | refine T_aload_n (pc1 := 15) (pc := 14) k_La_textAt_14 rfl rfl ?_ | refine T_aload_nN (pc1 := 15) (pc := 14) k_La_textAt_14 rfl rfl ?_) <;> try (refine T_getR (pc1 := 18) (pc := 15) k_La_textAt_15 rfl f_La_38 rfl (by first | assumption | exact ga G (by decide) rfl | exact lgA LG (by omega)) (by first | assumption | exact gr G (by decide) rfl | exact lgR LG (by omega)) ?_ <;> try (refine T_iload_n (pc1 := 19) (pc := 18) k_La_textAt_18 rfl rfl ?_ <;> try ((first | refine T_aaldQ (e0 := 4) (pc1 := 20) (pc := 19) k_La_textAt_19 rfl (by first | assumption | exact ga G (by decide) rfl | exact lgA LG (by omega)) (by decide) (by omega) (by omega) (by first | assumption | exact gr G (by decide) rfl | exact lgR LG (by omega)) ?_ | refine T_aaldQ (e0 := 0) (pc1 := 20) (pc := 19) k_La_textAt_19 rfl (by first | assumption | exact ga G (by decide) rfl | exact lgA LG (by omega)) (by decide) (by omega) (by omega) (by first | assumption | exact gr G (by decide) rfl | exact lgR LG (by omega)) ?_ | refine T_aaldQ (e0 := 1) (pc1 := 20) (pc := 19) k_La_textAt_19 rfl (by first | assumption | exact ga G (by decide) rfl | exact lgA LG (by omega)) (by decide) (by omega) (by omega) (by first | assumption | exact gr G (by decide) rfl | exact lgR LG (by omega)) ?_ | refine T_aaldQ (e0 := 2) (pc1 := 20) (pc := 19) k_La_textAt_19 rfl (by first | assumption | exact ga G (by decide) rfl | exact lgA LG (by omega)) (by decide) (by omega) (by omega) (by first | assumption | exact gr G (by decide) rfl | exact lgR LG (by omega)) ?_ | refine T_aaldQ (e0 := 3) (pc1 := 20) (pc := 19) k_La_textAt_19 rfl (by first | assumption | exact ga G (by decide) rfl | exact lgA LG (by omega)) (by decide) (by omega) (by omega) (by first | assumption | exact gr G (by decide) rfl | exact lgR LG (by omega)) ?_) <;> try (refine T_goto (tgt := 24) (pc := 20) k_La_textAt_20 rfl ?_)))))
      | (refine T_null (pc1 := 24) (pc := 23) k_La_textAt_23 rfl ?_)
      | ((first | refine T_retA (pc := 24) k_La_textAt_24 rfl (by first | exact Or.inl ⟨_, rfl⟩ | exact Or.inr ⟨_, rfl⟩) ?_ | refine T_retN (pc := 24) k_La_textAt_24 rfl (by first | exact Or.inl ⟨_, rfl⟩ | exact Or.inr ⟨_, rfl⟩) ?_))
      | refine T_iconst (v := (nI 0)) (pc1 := 2) (pc := 1) k_La_textAt_1 rfl (by decide) ?_
      | refine T_aload_n (pc1 := 3) (pc := 2) k_La_textAt_2 rfl rfl ?_
      | refine T_aload_nN (pc1 := 3) (pc := 2) k_La_textAt_2 rfl rfl ?_
      | refine T_getV (pc1 := 6) (pc := 3) k_La_textAt_3 rfl f_La_42 rfl (by first | assumption | exact ga G (by decide) rfl | exact lgA LG (by omega)) (by first | assumption | (simp (disch := omega) only [pI_eq, pI_row, pI_col, va_up_self, va_up_ne, ne_eq, not_false_eq_true] <;> rfl) | rfl) ?_
      | refine T_iconst (v := (nI 1)) (pc1 := 7) (pc := 6) k_La_textAt_6 rfl (by decide) ?_
      | refine T_isub (pc1 := 8) (pc := 7) k_La_textAt_7 rfl ?_
      | (refine T_cN (As := [_, _, _]) (d1 := 1) (pc1 := 11) (pc := 8) k_La_textAt_8 rfl (by decide) (Nat.le_of_ble_eq_true rfl) rfl o_S_isWithin l_La_71 rfl (c_S_isWithin (fun hw => ?_) (fun hw => ?_)) <;> try dsimp only [psh])
      | (with_reducible refine T_if_eqN (tgt := 23) (pc1 := 14) (pc := 11) k_La_textAt_11 (by decide) (by decide) (by omega) (fun hc => ?_) (fun hc => ?_) <;> first | (exfalso; omega) | skip)
      | refine T_if_eq_t (tgt := 23) (pc := 11) k_La_textAt_11 rfl (by decide) ?_
      | refine T_if_eq_f (tgt := 23) (pc1 := 14) (pc := 11) k_La_textAt_11 rfl rfl (by decide) ?_
      | refine T_if_eq (tgt := 23) (pc1 := 14) (pc := 11) k_La_textAt_11 rfl rfl (fun hc => ?_) (fun hc => ?_)
      | refine T_getR (pc1 := 18) (pc := 15) k_La_textAt_15 rfl f_La_38 rfl (by first | assumption | exact ga G (by decide) rfl | exact lgA LG (by omega)) (by first | assumption | exact gr G (by decide) rfl | exact lgR LG (by omega)) ?_
      | refine T_iload_n (pc1 := 19) (pc := 18) k_La_textAt_18 rfl rfl ?_
      | refine T_aaldQ (e0 := 4) (pc1 := 20) (pc := 19) k_La_textAt_19 rfl (by first | assumption | exact ga G (by decide) rfl | exact lgA LG (by omega)) (by decide) (by omega) (by omega) (by first | assumption | exact gr G (by decide) rfl | exact lgR LG (by omega)) ?_
      | refine T_aaldQ (e0 := 0) (pc1 := 20) (pc := 19) k_La_textAt_19 rfl (by first | assumption | exact ga G (by decide) rfl | exact lgA LG (by omega)) (by decide) (by omega) (by omega) (by first | assumption | exact gr G (by decide) rfl | exact lgR LG (by omega)) ?_
      | refine T_aaldQ (e0 := 1) (pc1 := 20) (pc := 19) k_La_textAt_19 rfl (by first | assumption | exact ga G (by decide) rfl | exact lgA LG (by omega)) (by decide) (by omega) (by omega) (by first | assumption | exact gr G (by decide) rfl | exact lgR LG (by omega)) ?_
      | refine T_aaldQ (e0 := 2) (pc1 := 20) (pc := 19) k_La_textAt_19 rfl (by first | assumption | exact ga G (by decide) rfl | exact lgA LG (by omega)) (by decide) (by omega) (by omega) (by first | assumption | exact gr G (by decide) rfl | exact lgR LG (by omega)) ?_
      | refine T_aaldQ (e0 := 3) (pc1 := 20) (pc := 19) k_La_textAt_19 rfl (by first | assumption | exact ga G (by decide) rfl | exact lgA LG (by omega)) (by decide) (by omega) (by omega) (by first | assumption | exact gr G (by decide) rfl | exact lgR LG (by omega)) ?_
      | refine T_goto (tgt := 24) (pc := 20) k_La_textAt_20 rfl ?_)
    all_goals first | exact k1 j q rfl hj hx | (exfalso; apply hw; constructor <;> omega)
  · have k0 := k0 hv
    repeat' (first
      | (refine T_iload_n (pc1 := 1) (pc := 0) k_La_textAt_0 rfl rfl ?_ <;> try (refine T_iconst (v := (nI 0)) (pc1 := 2) (pc := 1) k_La_textAt_1 rfl (by decide) ?_ <;> try ((first | refine T_aload_n (pc1 := 3) (pc := 2) k_La_textAt_2 rfl rfl ?_ | refine T_aload_nN (pc1 := 3) (pc := 2) k_La_textAt_2 rfl rfl ?_) <;> try (refine T_getV (pc1 := 6) (pc := 3) k_La_textAt_3 rfl f_La_42 rfl (by first | assumption | exact ga G (by decide) rfl | exact lgA LG (by omega)) (by first | assumption | (simp (disch := omega) only [pI_eq, pI_row, pI_col, va_up_self, va_up_ne, ne_eq, not_false_eq_true] <;> rfl) | rfl) ?_ <;> try (refine T_iconst (v := (nI 1)) (pc1 := 7) (pc := 6) k_La_textAt_6 rfl (by decide) ?_ <;> try (refine T_isub (pc1 := 8) (pc := 7) k_La_textAt_7 rfl ?_ <;> try ((refine T_cN (As := [_, _, _]) (d1 := 1) (pc1 := 11) (pc := 8) k_La_textAt_8 rfl (by decide) (Nat.le_of_ble_eq_true rfl) rfl o_S_isWithin l_La_71 rfl (c_S_isWithin (fun hw => ?_) (fun hw => ?_)) <;> try dsimp only [psh]) <;> try ((first | (with_reducible refine T_if_eqN (tgt := 23) (pc1 := 14) (pc := 11) k_La_textAt_11 (by decide) (by decide) (by omega) (fun hc => ?_) (fun hc => ?_) <;> first | (exfalso; omega) | skip) | refine T_if_eq_t (tgt := 23) (pc := 11) k_La_textAt_11 rfl (by decide) ?_ | refine T_if_eq_f (tgt := 23) (pc1 := 14) (pc := 11) k_La_textAt_11 rfl rfl (by decide) ?_ | refine T_if_eq (tgt := 23) (pc1 := 14) (pc := 11) k_La_textAt_11 rfl rfl (fun hc => ?_) (fun hc => ?_))))))))))
      | (refine T_getR (pc1 := 18) (pc := 15) k_La_textAt_15 rfl f_La_38 rfl (by first | assumption | exact ga G (by decide) rfl | exact lgA LG (by omega)) (by first | assumption | exact gr G (by decide) rfl | exact lgR LG (by omega)) ?_ <;> try (refine T_iload_n (pc1 := 19) (pc := 18) k_La_textAt_18 rfl rfl ?_ <;> try ((first | refine T_aaldQ (e0 := 4) (pc1 := 20) (pc := 19) k_La_textAt_19 rfl (by first | assumption | exact ga G (by decide) rfl | exact lgA LG (by omega)) (by decide) (by omega) (by omega) (by first | assumption | exact gr G (by decide) rfl | exact lgR LG (by omega)) ?_ | refine T_aaldQ (e0 := 0) (pc1 := 20) (pc := 19) k_La_textAt_19 rfl (by first | assumption | exact ga G (by decide) rfl | exact lgA LG (by omega)) (by decide) (by omega) (by omega) (by first | assumption | exact gr G (by decide) rfl | exact lgR LG (by omega)) ?_ | refine T_aaldQ (e0 := 1) (pc1 := 20) (pc := 19) k_La_textAt_19 rfl (by first | assumption | exact ga G (by decide) rfl | exact lgA LG (by omega)) (by decide) (by omega) (by omega) (by first | assumption | exact gr G (by decide) rfl | exact lgR LG (by omega)) ?_ | refine T_aaldQ (e0 := 2) (pc1 := 20) (pc := 19) k_La_textAt_19 rfl (by first | assumption | exact ga G (by decide) rfl | exact lgA LG (by omega)) (by decide) (by omega) (by omega) (by first | assumption | exact gr G (by decide) rfl | exact lgR LG (by omega)) ?_ | refine T_aaldQ (e0 := 3) (pc1 := 20) (pc := 19) k_La_textAt_19 rfl (by first | assumption | exact ga G (by decide) rfl | exact lgA LG (by omega)) (by decide) (by omega) (by omega) (by first | assumption | exact gr G (by decide) rfl | exact lgR LG (by omega)) ?_) <;> try (refine T_goto (tgt := 24) (pc := 20) k_La_textAt_20 rfl ?_))))
      | (refine T_null (pc1 := 24) (pc := 23) k_La_textAt_23 rfl ?_)
      | ((first | refine T_retA (pc := 24) k_La_textAt_24 rfl (by first | exact Or.inl ⟨_, rfl⟩ | exact Or.inr ⟨_, rfl⟩) ?_ | refine T_retN (pc := 24) k_La_textAt_24 rfl (by first | exact Or.inl ⟨_, rfl⟩ | exact Or.inr ⟨_, rfl⟩) ?_))
      | refine T_iconst (v := (nI 0)) (pc1 := 2) (pc := 1) k_La_textAt_1 rfl (by decide) ?_
      | refine T_aload_n (pc1 := 3) (pc := 2) k_La_textAt_2 rfl rfl ?_
      | refine T_aload_nN (pc1 := 3) (pc := 2) k_La_textAt_2 rfl rfl ?_
      | refine T_getV (pc1 := 6) (pc := 3) k_La_textAt_3 rfl f_La_42 rfl (by first | assumption | exact ga G (by decide) rfl | exact lgA LG (by omega)) (by first | assumption | (simp (disch := omega) only [pI_eq, pI_row, pI_col, va_up_self, va_up_ne, ne_eq, not_false_eq_true] <;> rfl) | rfl) ?_
      | refine T_iconst (v := (nI 1)) (pc1 := 7) (pc := 6) k_La_textAt_6 rfl (by decide) ?_
      | refine T_isub (pc1 := 8) (pc := 7) k_La_textAt_7 rfl ?_
      | (refine T_cN (As := [_, _, _]) (d1 := 1) (pc1 := 11) (pc := 8) k_La_textAt_8 rfl (by decide) (Nat.le_of_ble_eq_true rfl) rfl o_S_isWithin l_La_71 rfl (c_S_isWithin (fun hw => ?_) (fun hw => ?_)) <;> try dsimp only [psh])
      | (with_reducible refine T_if_eqN (tgt := 23) (pc1 := 14) (pc := 11) k_La_textAt_11 (by decide) (by decide) (by omega) (fun hc => ?_) (fun hc => ?_) <;> first | (exfalso; omega) | skip)
      | refine T_if_eq_t (tgt := 23) (pc := 11) k_La_textAt_11 rfl (by decide) ?_
      | refine T_if_eq_f (tgt := 23) (pc1 := 14) (pc := 11) k_La_textAt_11 rfl rfl (by decide) ?_
      | refine T_if_eq (tgt := 23) (pc1 := 14) (pc := 11) k_La_textAt_11 rfl rfl (fun hc => ?_) (fun hc => ?_)
      | refine T_iload_n (pc1 := 19) (pc := 18) k_La_textAt_18 rfl rfl ?_
      | refine T_aaldQ (e0 := 4) (pc1 := 20) (pc := 19) k_La_textAt_19 rfl (by first | assumption | exact ga G (by decide) rfl | exact lgA LG (by omega)) (by decide) (by omega) (by omega) (by first | assumption | exact gr G (by decide) rfl | exact lgR LG (by omega)) ?_
      | refine T_aaldQ (e0 := 0) (pc1 := 20) (pc := 19) k_La_textAt_19 rfl (by first | assumption | exact ga G (by decide) rfl | exact lgA LG (by omega)) (by decide) (by omega) (by omega) (by first | assumption | exact gr G (by decide) rfl | exact lgR LG (by omega)) ?_
      | refine T_aaldQ (e0 := 1) (pc1 := 20) (pc := 19) k_La_textAt_19 rfl (by first | assumption | exact ga G (by decide) rfl | exact lgA LG (by omega)) (by decide) (by omega) (by omega) (by first | assumption | exact gr G (by decide) rfl | exact lgR LG (by omega)) ?_
      | refine T_aaldQ (e0 := 2) (pc1 := 20) (pc := 19) k_La_textAt_19 rfl (by first | assumption | exact ga G (by decide) rfl | exact lgA LG (by omega)) (by decide) (by omega) (by omega) (by first | assumption | exact gr G (by decide) rfl | exact lgR LG (by omega)) ?_
      | refine T_aaldQ (e0 := 3) (pc1 := 20) (pc := 19) k_La_textAt_19 rfl (by first | assumption | exact ga G (by decide) rfl | exact lgA LG (by omega)) (by decide) (by omega) (by omega) (by first | assumption | exact gr G (by decide) rfl | exact lgR LG (by omega)) ?_
      | refine T_goto (tgt := 24) (pc := 20) k_La_textAt_20 rfl ?_)
    all_goals first | exact k0 | (exfalso; apply hv; constructor <;> omega)
theorem oNo_none : ¬ rg 14 cNONE := by decide
theorem c_La_textFor {a n tn key : Nat} {N : Row} (LG : LandG g a) (ok : okL N n tn) (LT : LTx g I a N tn) (hk : key < 3) (k0 : txt N key tn = none → K (some .null) g I) (k1 : ∀ t q, txt N key tn = some t → TxR g I N t q → K (some (.ref q)) g I) : Cl 3 M_La_textFor [.ref a, .int (nI key)] g I K := by
  show Rl 3 M_La_textFor 0 [some (.ref a), some (.int (nI key))] [] g I K
  obtain ⟨g1, g2, g3, g4, g5, g6, g7, g8, g9, g10, g11, g12, g13, g14⟩ := id LG
  have l1 := LT.1 key hk
  have h14 := ok.2.2.2.1
  repeat' (first
    | ((first | refine T_aload_n (pc1 := 1) (pc := 0) k_La_textFor_0 rfl rfl ?_ | refine T_aload_nN (pc1 := 1) (pc := 0) k_La_textFor_0 rfl rfl ?_) <;> try ((first | refine T_aload_n (pc1 := 2) (pc := 1) k_La_textFor_1 rfl rfl ?_ | refine T_aload_nN (pc1 := 2) (pc := 1) k_La_textFor_1 rfl rfl ?_) <;> try (refine T_getR (pc1 := 5) (pc := 2) k_La_textFor_2 rfl f_La_46 rfl (by first | assumption | exact ga G (by decide) rfl | exact lgA LG (by omega)) (by first | assumption | exact gr G (by decide) rfl | exact lgR LG (by omega)) ?_ <;> try (refine T_iload_n (pc1 := 6) (pc := 5) k_La_textFor_5 rfl rfl ?_ <;> try ((first | refine T_ialdN (pc1 := 7) (pc := 6) k_La_textFor_6 rfl (by first | assumption | exact ga G (by decide) rfl | exact lgA LG (by omega)) (by omega) (by omega) (by first | assumption | (simp (disch := omega) only [pI_eq, pI_row, pI_col, va_up_self, va_up_ne, ne_eq, not_false_eq_true] <;> rfl) | rfl) ?_ | refine T_iald (pc1 := 7) (pc := 6) k_La_textFor_6 rfl (by first | assumption | exact ga G (by decide) rfl | exact lgA LG (by omega)) (by assumption) ?_) <;> try ((refine T_cV (As := [_]) (d1 := 2) (pc1 := 10) (pc := 7) k_La_textFor_7 rfl (by decide) (Nat.le_of_ble_eq_true rfl) rfl o_La_textAt l_La_92 rfl (by first | assumption | exact ga G (by decide) rfl | exact lgA LG (by omega)) rfl (c_La_textAt LG ok LT (fun hv => ?_) (fun j q hv hj hx => ?_)) <;> try dsimp only [psh]) <;> try ((first | refine T_retA (pc := 10) k_La_textFor_10 rfl (by first | exact Or.inl ⟨_, rfl⟩ | exact Or.inr ⟨_, rfl⟩) ?_ | refine T_retN (pc := 10) k_La_textFor_10 rfl (by first | exact Or.inl ⟨_, rfl⟩ | exact Or.inr ⟨_, rfl⟩) ?_))))))))
    | refine T_aload_n (pc1 := 2) (pc := 1) k_La_textFor_1 rfl rfl ?_
    | refine T_aload_nN (pc1 := 2) (pc := 1) k_La_textFor_1 rfl rfl ?_
    | refine T_getR (pc1 := 5) (pc := 2) k_La_textFor_2 rfl f_La_46 rfl (by first | assumption | exact ga G (by decide) rfl | exact lgA LG (by omega)) (by first | assumption | exact gr G (by decide) rfl | exact lgR LG (by omega)) ?_
    | refine T_iload_n (pc1 := 6) (pc := 5) k_La_textFor_5 rfl rfl ?_
    | refine T_ialdN (pc1 := 7) (pc := 6) k_La_textFor_6 rfl (by first | assumption | exact ga G (by decide) rfl | exact lgA LG (by omega)) (by omega) (by omega) (by first | assumption | (simp (disch := omega) only [pI_eq, pI_row, pI_col, va_up_self, va_up_ne, ne_eq, not_false_eq_true] <;> rfl) | rfl) ?_
    | refine T_iald (pc1 := 7) (pc := 6) k_La_textFor_6 rfl (by first | assumption | exact ga G (by decide) rfl | exact lgA LG (by omega)) (by assumption) ?_
    | (refine T_cV (As := [_]) (d1 := 2) (pc1 := 10) (pc := 7) k_La_textFor_7 rfl (by decide) (Nat.le_of_ble_eq_true rfl) rfl o_La_textAt l_La_92 rfl (by first | assumption | exact ga G (by decide) rfl | exact lgA LG (by omega)) rfl (c_La_textAt LG ok LT (fun hv => ?_) (fun j q hv hj hx => ?_)) <;> try dsimp only [psh])
    | refine T_retA (pc := 10) k_La_textFor_10 rfl (by first | exact Or.inl ⟨_, rfl⟩ | exact Or.inr ⟨_, rfl⟩) ?_
    | refine T_retN (pc := 10) k_La_textFor_10 rfl (by first | exact Or.inl ⟨_, rfl⟩ | exact Or.inr ⟨_, rfl⟩) ?_)
  · refine k0 ?_
    cases ht : txt N key tn with
    | none => rfl
    | some t =>
      rw [ht] at hv
      have htl := (txt_lt ht).1
      exact absurd (rg_nI htl (by omega)) hv
  · refine k1 j q ?_ hx
    cases ht : txt N key tn with
    | none =>
      rw [ht] at hv
      have hv : cNONE = nI j := hv
      exact absurd (show rg 14 cNONE by rw [hv]; exact rg_nI (by omega) (by omega)) oNo_none
    | some t =>
      rw [ht] at hv
      have htl := (txt_lt ht).1
      have hv : nI t = nI j := hv
      rw [(nI_eq (by omega) (by omega)).mp hv]
/-- a text of the class gives what the model's gives -/
theorem c_Te_evl {N : Row} {x y w : Int32} {n tn key t q : Nat} (ok : okL N n tn) (ht : txt N key tn = some t) (hk : key < 3) (hx : TxR g I N t q) (kk : ∀ J, fre stk I J → K (some (.int (evl N t (N (158 + 100 * t)).toNatClampNeg (nm3 x y w)))) g J) : Cl 2 M_Te_value [.ref q, .int x, .int y, .int w] g I K := by
  obtain ⟨h1, h2, h3, h4, h5, h6, h7, h8, h9, h10⟩ := hx
  have htl := (txt_lt ht)
  obtain ⟨key', lv, m, a1, a2, a3, a4, a5, a6, a7⟩ := ok.2.2.2.2.2.1 t htl.1
  have e : key' = key := (nI_eq (by omega) (by omega)).mp (a1.symm.trans htl.2)
  subst e
  have em : (N (158 + 100 * t)).toNatClampNeg = m := by rw [a5, nI_clamp (by omega)]
  have el : (N (157 + 100 * t)).toNatClampNeg = lv := by rw [a3, nI_clamp (by omega)]
  rw [em] at h8 h10 kk
  rw [el] at h9
  exact c_Te_value h3 h4 h5 h8 h9 h10 a6 a4 (nn_le _) a7 (fun J hJ => kk J (fr_x hJ (fun i hi => by
    obtain rfl : i = q + 2 := by simpa using hi
    unfold stk
    omega)))
set_option maxHeartbeats 4000000 in
theorem c_La_takes {a n tn b : Nat} {N : Row} (LG : LandG g a) (ok : okL N n tn) (LT : LTx g I a N tn) (LB : LBt I a N n) (hb : b < n) (kk : ∀ J, fre stk I J → K (some (.int (tkI N tn b))) g J) : Cl 4 M_La_takes [.ref a, .ref (a + 6 + b)] g I K := by
  show Rl 4 M_La_takes 0 [some (.ref a), some (.ref (a + 6 + b)), none] [] g I K
  have h14 := ok.2.1
  obtain ⟨g1, g2, g3, g4, g5, g6, g7, g8, g9, g10, g11, g12, g13, g14⟩ := id LG
  obtain ⟨k, o, t, l, r, h0, hk, -, -, -, -, -, h3, -, -, h4, -⟩ := ok.2.2.2.2.1 b hb
  obtain ⟨b1, b2, b3, b4⟩ := id LB
  have f0 : I (a + 6 + b) 0 = nI k := (b4 b hb 0 (by decide)).trans h0
  have f3 : I (a + 6 + b) 3 = bf N b 3 := b4 b hb 3 (by decide)
  have f4 : I (a + 6 + b) 4 = bf N b 4 := b4 b hb 4 (by decide)
  have gb := lgA LG (show b < 14 by omega)
  have hwet := ok.2.2.2.2.2.2.1
  have ns : ∀ J : IM, fre stk I J → J (a + 6 + b) = I (a + 6 + b) ∧ J a = I a := fun J hJ => ⟨hJ _ (fun q => by unfold stk at q; omega), hJ _ (fun q => by unfold stk at q; omega)⟩
  have fin : ∀ J p, fre stk I J → pln N tn b = p → K (some (.int (tkV k p (J (a + 6 + b) 4) (J (a + 6 + b) 3) (N 3)))) g J := by
    intro J p hJ hp
    have := kk J hJ
    unfold tkI at this
    rw [hp, h0, nI_clamp (by omega)] at this
    rw [(ns J hJ).1, f3, f4]
    exact this
  repeat' (first
    | ((first | refine T_aload_n (pc1 := 1) (pc := 0) k_La_takes_0 rfl rfl ?_ | refine T_aload_nN (pc1 := 1) (pc := 0) k_La_takes_0 rfl rfl ?_) <;> try (refine T_iconst (v := (nI 0)) (pc1 := 2) (pc := 1) k_La_takes_1 rfl (by decide) ?_ <;> try ((refine T_cV (As := [_]) (d1 := 3) (pc1 := 5) (pc := 2) k_La_takes_2 rfl (by decide) (Nat.le_of_ble_eq_true rfl) rfl o_La_textFor l_La_96 rfl (by first | assumption | exact ga G (by decide) rfl | exact lgA LG (by omega)) rfl (c_La_textFor LG ok LT (by decide) (fun htx => ?_) (fun t q htx hx => ?_)) <;> try dsimp only [psh]))))
    | refine T_iconst (v := (nI 0)) (pc1 := 2) (pc := 1) k_La_takes_1 rfl (by decide) ?_
    | (refine T_cV (As := [_]) (d1 := 3) (pc1 := 5) (pc := 2) k_La_takes_2 rfl (by decide) (Nat.le_of_ble_eq_true rfl) rfl o_La_textFor l_La_96 rfl (by first | assumption | exact ga G (by decide) rfl | exact lgA LG (by omega)) rfl (c_La_textFor LG ok LT (by decide) (fun htx => ?_) (fun t q htx hx => ?_)) <;> try dsimp only [psh]))
  · have hp : pln N tn b = bf N b 3 := by unfold pln; rw [htx]
    repeat' (first
      | ((first | refine T_astore_n (pc1 := 6) (pc := 5) k_La_takes_5 rfl (Nat.le_of_ble_eq_true rfl) ?_ | refine T_astore_nN (pc1 := 6) (pc := 5) k_La_takes_5 rfl (Nat.le_of_ble_eq_true rfl) ?_) <;> try ((first | refine T_aload_n (pc1 := 7) (pc := 6) k_La_takes_6 rfl rfl ?_ | refine T_aload_nN (pc1 := 7) (pc := 6) k_La_takes_6 rfl rfl ?_) <;> try ((first | refine T_ifnonnull (tgt := 23) (pc := 7) k_La_takes_7 rfl ?_ | refine T_ifnonnullN (pc1 := 10) (pc := 7) k_La_takes_7 rfl ?_))))
      | ((first | refine T_aload_n (pc1 := 11) (pc := 10) k_La_takes_10 rfl rfl ?_ | refine T_aload_nN (pc1 := 11) (pc := 10) k_La_takes_10 rfl rfl ?_) <;> try ((first | refine T_aload_n (pc1 := 12) (pc := 11) k_La_takes_11 rfl rfl ?_ | refine T_aload_nN (pc1 := 12) (pc := 11) k_La_takes_11 rfl rfl ?_) <;> try (refine T_getV (pc1 := 15) (pc := 12) k_La_takes_12 rfl f_La_99 rfl (by first | assumption | exact ga G (by decide) rfl | exact lgA LG (by omega)) (by first | assumption | (simp (disch := omega) only [pI_eq, pI_row, pI_col, va_up_self, va_up_ne, ne_eq, not_false_eq_true] <;> rfl) | rfl) ?_ <;> try ((first | refine T_aload_n (pc1 := 16) (pc := 15) k_La_takes_15 rfl rfl ?_ | refine T_aload_nN (pc1 := 16) (pc := 15) k_La_takes_15 rfl rfl ?_) <;> try (refine T_getV (pc1 := 19) (pc := 16) k_La_takes_16 rfl f_La_21 rfl (by first | assumption | exact ga G (by decide) rfl | exact lgA LG (by omega)) (by first | assumption | (simp (disch := omega) only [pI_eq, pI_row, pI_col, va_up_self, va_up_ne, ne_eq, not_false_eq_true] <;> rfl) | rfl) ?_ <;> try ((refine T_cV (As := [_, _]) (d1 := 2) (pc1 := 22) (pc := 19) k_La_takes_19 rfl (by decide) (Nat.le_of_ble_eq_true rfl) rfl o_B_takes l_La_102 rfl (by first | assumption | exact ga G (by decide) rfl | exact lgA LG (by omega)) rfl (c_B_takes gb f0 hk hwet ?_) <;> try dsimp only [psh]) <;> try (refine T_retI (pc := 22) k_La_takes_22 rfl (by first | rfl | decide | assumption) ?_)))))))
      | refine T_aload_n (pc1 := 7) (pc := 6) k_La_takes_6 rfl rfl ?_
      | refine T_aload_nN (pc1 := 7) (pc := 6) k_La_takes_6 rfl rfl ?_
      | refine T_ifnonnull (tgt := 23) (pc := 7) k_La_takes_7 rfl ?_
      | refine T_ifnonnullN (pc1 := 10) (pc := 7) k_La_takes_7 rfl ?_
      | refine T_aload_n (pc1 := 12) (pc := 11) k_La_takes_11 rfl rfl ?_
      | refine T_aload_nN (pc1 := 12) (pc := 11) k_La_takes_11 rfl rfl ?_
      | refine T_getV (pc1 := 15) (pc := 12) k_La_takes_12 rfl f_La_99 rfl (by first | assumption | exact ga G (by decide) rfl | exact lgA LG (by omega)) (by first | assumption | (simp (disch := omega) only [pI_eq, pI_row, pI_col, va_up_self, va_up_ne, ne_eq, not_false_eq_true] <;> rfl) | rfl) ?_
      | refine T_aload_n (pc1 := 16) (pc := 15) k_La_takes_15 rfl rfl ?_
      | refine T_aload_nN (pc1 := 16) (pc := 15) k_La_takes_15 rfl rfl ?_
      | refine T_getV (pc1 := 19) (pc := 16) k_La_takes_16 rfl f_La_21 rfl (by first | assumption | exact ga G (by decide) rfl | exact lgA LG (by omega)) (by first | assumption | (simp (disch := omega) only [pI_eq, pI_row, pI_col, va_up_self, va_up_ne, ne_eq, not_false_eq_true] <;> rfl) | rfl) ?_
      | (refine T_cV (As := [_, _]) (d1 := 2) (pc1 := 22) (pc := 19) k_La_takes_19 rfl (by decide) (Nat.le_of_ble_eq_true rfl) rfl o_B_takes l_La_102 rfl (by first | assumption | exact ga G (by decide) rfl | exact lgA LG (by omega)) rfl (c_B_takes gb f0 hk hwet ?_) <;> try dsimp only [psh])
      | refine T_retI (pc := 22) k_La_takes_22 rfl (by first | rfl | decide | assumption) ?_)
    exact fin I _ fr_rf hp
  · have hp : pln N tn b = hld (nI 1) (nI 999) (evl N t (N (158 + 100 * t)).toNatClampNeg (nm3 (bf N b 3) (N 3) (bf N b 4))) := by unfold pln; rw [htx]
    repeat' (first
      | ((first | refine T_astore_n (pc1 := 6) (pc := 5) k_La_takes_5 rfl (Nat.le_of_ble_eq_true rfl) ?_ | refine T_astore_nN (pc1 := 6) (pc := 5) k_La_takes_5 rfl (Nat.le_of_ble_eq_true rfl) ?_) <;> try ((first | refine T_aload_n (pc1 := 7) (pc := 6) k_La_takes_6 rfl rfl ?_ | refine T_aload_nN (pc1 := 7) (pc := 6) k_La_takes_6 rfl rfl ?_) <;> try ((first | refine T_ifnonnull (tgt := 23) (pc := 7) k_La_takes_7 rfl ?_ | refine T_ifnonnullN (pc1 := 10) (pc := 7) k_La_takes_7 rfl ?_))))
      | ((first | refine T_aload_n (pc1 := 11) (pc := 10) k_La_takes_10 rfl rfl ?_ | refine T_aload_nN (pc1 := 11) (pc := 10) k_La_takes_10 rfl rfl ?_) <;> try ((first | refine T_aload_n (pc1 := 12) (pc := 11) k_La_takes_11 rfl rfl ?_ | refine T_aload_nN (pc1 := 12) (pc := 11) k_La_takes_11 rfl rfl ?_) <;> try (refine T_getV (pc1 := 15) (pc := 12) k_La_takes_12 rfl f_La_99 rfl (by first | assumption | exact ga G (by decide) rfl | exact lgA LG (by omega)) (by first | assumption | (simp (disch := omega) only [pI_eq, pI_row, pI_col, va_up_self, va_up_ne, ne_eq, not_false_eq_true] <;> rfl) | rfl) ?_ <;> try ((first | refine T_aload_n (pc1 := 16) (pc := 15) k_La_takes_15 rfl rfl ?_ | refine T_aload_nN (pc1 := 16) (pc := 15) k_La_takes_15 rfl rfl ?_) <;> try (refine T_getV (pc1 := 19) (pc := 16) k_La_takes_16 rfl f_La_21 rfl (by first | assumption | exact ga G (by decide) rfl | exact lgA LG (by omega)) (by first | assumption | (simp (disch := omega) only [pI_eq, pI_row, pI_col, va_up_self, va_up_ne, ne_eq, not_false_eq_true] <;> rfl) | rfl) ?_ <;> try ((refine T_cV (As := [_, _]) (d1 := 2) (pc1 := 22) (pc := 19) k_La_takes_19 rfl (by decide) (Nat.le_of_ble_eq_true rfl) rfl o_B_takes l_La_102 rfl (by first | assumption | exact ga G (by decide) rfl | exact lgA LG (by omega)) rfl (c_B_takes gb f0 hk hwet ?_) <;> try dsimp only [psh]) <;> try (refine T_retI (pc := 22) k_La_takes_22 rfl (by first | rfl | decide | assumption) ?_)))))))
      | ((first | refine T_aload_n (pc1 := 24) (pc := 23) k_La_takes_23 rfl rfl ?_ | refine T_aload_nN (pc1 := 24) (pc := 23) k_La_takes_23 rfl rfl ?_) <;> try ((first | refine T_aload_n (pc1 := 25) (pc := 24) k_La_takes_24 rfl rfl ?_ | refine T_aload_nN (pc1 := 25) (pc := 24) k_La_takes_24 rfl rfl ?_) <;> try ((first | refine T_aload_n (pc1 := 26) (pc := 25) k_La_takes_25 rfl rfl ?_ | refine T_aload_nN (pc1 := 26) (pc := 25) k_La_takes_25 rfl rfl ?_) <;> try (refine T_getV (pc1 := 29) (pc := 26) k_La_takes_26 rfl f_La_99 rfl (by first | assumption | exact ga G (by decide) rfl | exact lgA LG (by omega)) (by first | assumption | (simp (disch := omega) only [pI_eq, pI_row, pI_col, va_up_self, va_up_ne, ne_eq, not_false_eq_true] <;> rfl) | rfl) ?_ <;> try ((first | refine T_aload_n (pc1 := 30) (pc := 29) k_La_takes_29 rfl rfl ?_ | refine T_aload_nN (pc1 := 30) (pc := 29) k_La_takes_29 rfl rfl ?_) <;> try (refine T_getV (pc1 := 33) (pc := 30) k_La_takes_30 rfl f_La_21 rfl (by first | assumption | exact ga G (by decide) rfl | exact lgA LG (by omega)) (by first | assumption | (simp (disch := omega) only [pI_eq, pI_row, pI_col, va_up_self, va_up_ne, ne_eq, not_false_eq_true] <;> rfl) | rfl) ?_ <;> try ((first | refine T_aload_n (pc1 := 34) (pc := 33) k_La_takes_33 rfl rfl ?_ | refine T_aload_nN (pc1 := 34) (pc := 33) k_La_takes_33 rfl rfl ?_) <;> try (refine T_getV (pc1 := 37) (pc := 34) k_La_takes_34 rfl f_La_106 rfl (by first | assumption | exact ga G (by decide) rfl | exact lgA LG (by omega)) (by first | assumption | (simp (disch := omega) only [pI_eq, pI_row, pI_col, va_up_self, va_up_ne, ne_eq, not_false_eq_true] <;> rfl) | rfl) ?_ <;> try ((refine T_cV (As := [_, _, _]) (ci := 6) (n := 4) (d1 := 2) (pc1 := 40) (pc := 37) k_La_takes_37 rfl (by decide) (Nat.le_of_ble_eq_true rfl) rfl o_Te_value l_La_109 rfl hx.2.2.1 rfl (c_Te_evl ok htx (by decide) hx (fun J hJ => ?_)) <;> try dsimp only [psh]))))))))))
      | refine T_aload_n (pc1 := 7) (pc := 6) k_La_takes_6 rfl rfl ?_
      | refine T_aload_nN (pc1 := 7) (pc := 6) k_La_takes_6 rfl rfl ?_
      | refine T_ifnonnull (tgt := 23) (pc := 7) k_La_takes_7 rfl ?_
      | refine T_ifnonnullN (pc1 := 10) (pc := 7) k_La_takes_7 rfl ?_
      | refine T_aload_n (pc1 := 12) (pc := 11) k_La_takes_11 rfl rfl ?_
      | refine T_aload_nN (pc1 := 12) (pc := 11) k_La_takes_11 rfl rfl ?_
      | refine T_getV (pc1 := 15) (pc := 12) k_La_takes_12 rfl f_La_99 rfl (by first | assumption | exact ga G (by decide) rfl | exact lgA LG (by omega)) (by first | assumption | (simp (disch := omega) only [pI_eq, pI_row, pI_col, va_up_self, va_up_ne, ne_eq, not_false_eq_true] <;> rfl) | rfl) ?_
      | refine T_aload_n (pc1 := 16) (pc := 15) k_La_takes_15 rfl rfl ?_
      | refine T_aload_nN (pc1 := 16) (pc := 15) k_La_takes_15 rfl rfl ?_
      | refine T_getV (pc1 := 19) (pc := 16) k_La_takes_16 rfl f_La_21 rfl (by first | assumption | exact ga G (by decide) rfl | exact lgA LG (by omega)) (by first | assumption | (simp (disch := omega) only [pI_eq, pI_row, pI_col, va_up_self, va_up_ne, ne_eq, not_false_eq_true] <;> rfl) | rfl) ?_
      | (refine T_cV (As := [_, _]) (d1 := 2) (pc1 := 22) (pc := 19) k_La_takes_19 rfl (by decide) (Nat.le_of_ble_eq_true rfl) rfl o_B_takes l_La_102 rfl (by first | assumption | exact ga G (by decide) rfl | exact lgA LG (by omega)) rfl (c_B_takes gb f0 hk hwet ?_) <;> try dsimp only [psh])
      | refine T_retI (pc := 22) k_La_takes_22 rfl (by first | rfl | decide | assumption) ?_
      | refine T_aload_n (pc1 := 25) (pc := 24) k_La_takes_24 rfl rfl ?_
      | refine T_aload_nN (pc1 := 25) (pc := 24) k_La_takes_24 rfl rfl ?_
      | refine T_aload_n (pc1 := 26) (pc := 25) k_La_takes_25 rfl rfl ?_
      | refine T_aload_nN (pc1 := 26) (pc := 25) k_La_takes_25 rfl rfl ?_
      | refine T_getV (pc1 := 29) (pc := 26) k_La_takes_26 rfl f_La_99 rfl (by first | assumption | exact ga G (by decide) rfl | exact lgA LG (by omega)) (by first | assumption | (simp (disch := omega) only [pI_eq, pI_row, pI_col, va_up_self, va_up_ne, ne_eq, not_false_eq_true] <;> rfl) | rfl) ?_
      | refine T_aload_n (pc1 := 30) (pc := 29) k_La_takes_29 rfl rfl ?_
      | refine T_aload_nN (pc1 := 30) (pc := 29) k_La_takes_29 rfl rfl ?_
      | refine T_getV (pc1 := 33) (pc := 30) k_La_takes_30 rfl f_La_21 rfl (by first | assumption | exact ga G (by decide) rfl | exact lgA LG (by omega)) (by first | assumption | (simp (disch := omega) only [pI_eq, pI_row, pI_col, va_up_self, va_up_ne, ne_eq, not_false_eq_true] <;> rfl) | rfl) ?_
      | refine T_aload_n (pc1 := 34) (pc := 33) k_La_takes_33 rfl rfl ?_
      | refine T_aload_nN (pc1 := 34) (pc := 33) k_La_takes_33 rfl rfl ?_
      | refine T_getV (pc1 := 37) (pc := 34) k_La_takes_34 rfl f_La_106 rfl (by first | assumption | exact ga G (by decide) rfl | exact lgA LG (by omega)) (by first | assumption | (simp (disch := omega) only [pI_eq, pI_row, pI_col, va_up_self, va_up_ne, ne_eq, not_false_eq_true] <;> rfl) | rfl) ?_
      | (refine T_cV (As := [_, _, _]) (ci := 6) (n := 4) (d1 := 2) (pc1 := 40) (pc := 37) k_La_takes_37 rfl (by decide) (Nat.le_of_ble_eq_true rfl) rfl o_Te_value l_La_109 rfl hx.2.2.1 rfl (c_Te_evl ok htx (by decide) hx (fun J hJ => ?_)) <;> try dsimp only [psh]))
    have w2 : J a 2 = N 3 := by rw [(ns J hJ).2]; exact b2
    have w0 : J (a + 6 + b) 0 = nI k := by rw [(ns J hJ).1]; exact f0
    repeat' (first
      | (refine T_iconst (v := (nI 1)) (pc1 := 41) (pc := 40) k_La_takes_40 rfl (by decide) ?_ <;> try (refine T_sipush (v := (nI 999)) (pc1 := 44) (pc := 41) k_La_takes_41 rfl (by decide) ?_ <;> try ((refine T_cN (As := [_, _, _]) (d1 := 1) (pc1 := 47) (pc := 44) k_La_takes_44 rfl (by decide) (Nat.le_of_ble_eq_true rfl) rfl o_S_heldWithin l_La_113 rfl (c_S_heldWithin ?_) <;> try dsimp only [psh]) <;> try ((first | refine T_aload_n (pc1 := 48) (pc := 47) k_La_takes_47 rfl rfl ?_ | refine T_aload_nN (pc1 := 48) (pc := 47) k_La_takes_47 rfl rfl ?_) <;> try (refine T_getV (pc1 := 51) (pc := 48) k_La_takes_48 rfl f_La_21 rfl (by first | assumption | exact ga G (by decide) rfl | exact lgA LG (by omega)) (by first | assumption | (simp (disch := omega) only [pI_eq, pI_row, pI_col, va_up_self, va_up_ne, ne_eq, not_false_eq_true] <;> rfl) | rfl) ?_ <;> try ((refine T_cV (As := [_, _]) (d1 := 2) (pc1 := 54) (pc := 51) k_La_takes_51 rfl (by decide) (Nat.le_of_ble_eq_true rfl) rfl o_B_takes l_La_102 rfl (by first | assumption | exact ga G (by decide) rfl | exact lgA LG (by omega)) rfl (c_B_takes gb w0 hk hwet ?_) <;> try dsimp only [psh]) <;> try (refine T_retI (pc := 54) k_La_takes_54 rfl (by first | rfl | decide | assumption) ?_)))))))
      | refine T_sipush (v := (nI 999)) (pc1 := 44) (pc := 41) k_La_takes_41 rfl (by decide) ?_
      | (refine T_cN (As := [_, _, _]) (d1 := 1) (pc1 := 47) (pc := 44) k_La_takes_44 rfl (by decide) (Nat.le_of_ble_eq_true rfl) rfl o_S_heldWithin l_La_113 rfl (c_S_heldWithin ?_) <;> try dsimp only [psh])
      | refine T_aload_n (pc1 := 48) (pc := 47) k_La_takes_47 rfl rfl ?_
      | refine T_aload_nN (pc1 := 48) (pc := 47) k_La_takes_47 rfl rfl ?_
      | refine T_getV (pc1 := 51) (pc := 48) k_La_takes_48 rfl f_La_21 rfl (by first | assumption | exact ga G (by decide) rfl | exact lgA LG (by omega)) (by first | assumption | (simp (disch := omega) only [pI_eq, pI_row, pI_col, va_up_self, va_up_ne, ne_eq, not_false_eq_true] <;> rfl) | rfl) ?_
      | (refine T_cV (As := [_, _]) (d1 := 2) (pc1 := 54) (pc := 51) k_La_takes_51 rfl (by decide) (Nat.le_of_ble_eq_true rfl) rfl o_B_takes l_La_102 rfl (by first | assumption | exact ga G (by decide) rfl | exact lgA LG (by omega)) rfl (c_B_takes gb w0 hk hwet ?_) <;> try dsimp only [psh])
      | refine T_retI (pc := 54) k_La_takes_54 rfl (by first | rfl | decide | assumption) ?_)
    exact fin J _ hJ hp
theorem hld_said {s : Nat} (hs : s ≤ 999) : jmax (nI 1) (nI s) = hld (nI 1) (nI 999) (nI s) := by
  unfold hld
  rw [jmin_nI (by decide) (by omega), Nat.min_eq_right hs]
set_option maxHeartbeats 4000000 in
theorem c_La_thinks {a n tn b : Nat} {N : Row} (LG : LandG g a) (ok : okL N n tn) (LT : LTx g I a N tn) (LB : LBt I a N n) (hb : b < n) (kk : ∀ J, fre stk I J → K (some (.int (thI N tn b))) g J) : Cl 4 M_La_thinks [.ref a, .ref (a + 6 + b)] g I K := by
  show Rl 4 M_La_thinks 0 [some (.ref a), some (.ref (a + 6 + b)), none, none] [] g I K
  have h14 := ok.2.1
  obtain ⟨g1, g2, g3, g4, g5, g6, g7, g8, g9, g10, g11, g12, g13, g14⟩ := id LG
  obtain ⟨k, o, t, l, r, h0, hk, -, -, -, -, -, h3, -, -, h4, -, h5⟩ := ok.2.2.2.2.1 b hb
  obtain ⟨b1, b2, b3, b4⟩ := id LB
  have f0 : I (a + 6 + b) 0 = bf N b 0 := b4 b hb 0 (by decide)
  have f5 : I (a + 6 + b) 5 = bf N b 5 := b4 b hb 5 (by decide)
  have gb := lgA LG (show b < 14 by omega)
  unfold thI at kk
  repeat' (first
    | ((first | refine T_aload_n (pc1 := 1) (pc := 0) k_La_thinks_0 rfl rfl ?_ | refine T_aload_nN (pc1 := 1) (pc := 0) k_La_thinks_0 rfl rfl ?_) <;> try (refine T_iconst (v := (nI 1)) (pc1 := 2) (pc := 1) k_La_thinks_1 rfl (by decide) ?_ <;> try ((refine T_cV (As := [_]) (d1 := 3) (pc1 := 5) (pc := 2) k_La_thinks_2 rfl (by decide) (Nat.le_of_ble_eq_true rfl) rfl o_La_textFor l_La_96 rfl (by first | assumption | exact ga G (by decide) rfl | exact lgA LG (by omega)) rfl (c_La_textFor LG ok LT (by decide) (fun htx => ?_) (fun t q htx hx => ?_)) <;> try dsimp only [psh]))))
    | refine T_iconst (v := (nI 1)) (pc1 := 2) (pc := 1) k_La_thinks_1 rfl (by decide) ?_
    | (refine T_cV (As := [_]) (d1 := 3) (pc1 := 5) (pc := 2) k_La_thinks_2 rfl (by decide) (Nat.le_of_ble_eq_true rfl) rfl o_La_textFor l_La_96 rfl (by first | assumption | exact ga G (by decide) rfl | exact lgA LG (by omega)) rfl (c_La_textFor LG ok LT (by decide) (fun htx => ?_) (fun t q htx hx => ?_)) <;> try dsimp only [psh]))
  · rw [htx] at kk
    have kk := kk I fr_rf
    dsimp only at kk
    rcases h5 with h5 | ⟨s, hs, h5⟩
    · rw [h5, if_pos rfl] at kk
      rw [h5] at f5
      repeat' (first
        | ((first | refine T_astore_n (pc1 := 6) (pc := 5) k_La_thinks_5 rfl (Nat.le_of_ble_eq_true rfl) ?_ | refine T_astore_nN (pc1 := 6) (pc := 5) k_La_thinks_5 rfl (Nat.le_of_ble_eq_true rfl) ?_) <;> try ((first | refine T_aload_n (pc1 := 7) (pc := 6) k_La_thinks_6 rfl rfl ?_ | refine T_aload_nN (pc1 := 7) (pc := 6) k_La_thinks_6 rfl rfl ?_) <;> try ((first | refine T_ifnonnull (tgt := 35) (pc := 7) k_La_thinks_7 rfl ?_ | refine T_ifnonnullN (pc1 := 10) (pc := 7) k_La_thinks_7 rfl ?_))))
        | ((first | refine T_aload_n (pc1 := 11) (pc := 10) k_La_thinks_10 rfl rfl ?_ | refine T_aload_nN (pc1 := 11) (pc := 10) k_La_thinks_10 rfl rfl ?_) <;> try (refine T_getV (pc1 := 14) (pc := 11) k_La_thinks_11 rfl f_La_116 rfl (by first | assumption | exact ga G (by decide) rfl | exact lgA LG (by omega)) (by first | assumption | (simp (disch := omega) only [pI_eq, pI_row, pI_col, va_up_self, va_up_ne, ne_eq, not_false_eq_true] <;> rfl) | rfl) ?_ <;> try (refine T_ldc (v := (-1000000005)) (pc1 := 16) (pc := 14) k_La_thinks_14 rfl c_La_45 ?_ <;> try ((first | (with_reducible refine T_icmp_neN (tgt := 26) (pc1 := 19) (pc := 16) k_La_thinks_16 (by decide) (by decide) (by omega) (by omega) (fun hc => ?_) (fun hc => ?_) <;> first | (exfalso; omega) | skip) | refine T_icmp_ne_t (tgt := 26) (pc := 16) k_La_thinks_16 rfl (by decide) ?_ | refine T_icmp_ne_f (tgt := 26) (pc1 := 19) (pc := 16) k_La_thinks_16 rfl rfl (by decide) ?_ | refine T_icmp_ne (tgt := 26) (pc1 := 19) (pc := 16) k_La_thinks_16 rfl rfl (fun hc => ?_) (fun hc => ?_))))))
        | ((first | refine T_aload_n (pc1 := 20) (pc := 19) k_La_thinks_19 rfl rfl ?_ | refine T_aload_nN (pc1 := 20) (pc := 19) k_La_thinks_19 rfl rfl ?_) <;> try (refine T_getV (pc1 := 23) (pc := 20) k_La_thinks_20 rfl f_La_24 rfl (by first | assumption | exact ga G (by decide) rfl | exact lgA LG (by omega)) (by first | assumption | (simp (disch := omega) only [pI_eq, pI_row, pI_col, va_up_self, va_up_ne, ne_eq, not_false_eq_true] <;> rfl) | rfl) ?_ <;> try (refine T_goto (tgt := 34) (pc := 23) k_La_thinks_23 rfl ?_)))
        | (refine T_iconst (v := (nI 1)) (pc1 := 27) (pc := 26) k_La_thinks_26 rfl (by decide) ?_ <;> try ((first | refine T_aload_n (pc1 := 28) (pc := 27) k_La_thinks_27 rfl rfl ?_ | refine T_aload_nN (pc1 := 28) (pc := 27) k_La_thinks_27 rfl rfl ?_) <;> try (refine T_getV (pc1 := 31) (pc := 28) k_La_thinks_28 rfl f_La_116 rfl (by first | assumption | exact ga G (by decide) rfl | exact lgA LG (by omega)) (by first | assumption | (simp (disch := omega) only [pI_eq, pI_row, pI_col, va_up_self, va_up_ne, ne_eq, not_false_eq_true] <;> rfl) | rfl) ?_ <;> try ((first | refine T_mmaxV (pc1 := 34) (pc := 31) k_La_thinks_31 rfl l_La_119 (by decide) (Nat.le_of_ble_eq_true rfl) (by with_reducible rfl) (by with_reducible rfl) (by omega) (by omega) ?_ | refine T_mmax (pc1 := 34) (pc := 31) k_La_thinks_31 rfl l_La_119 (by decide) (Nat.le_of_ble_eq_true rfl) ?_)))))
        | (refine T_retI (pc := 34) k_La_thinks_34 rfl (by first | rfl | decide | assumption) ?_)
        | refine T_aload_n (pc1 := 7) (pc := 6) k_La_thinks_6 rfl rfl ?_
        | refine T_aload_nN (pc1 := 7) (pc := 6) k_La_thinks_6 rfl rfl ?_
        | refine T_ifnonnull (tgt := 35) (pc := 7) k_La_thinks_7 rfl ?_
        | refine T_ifnonnullN (pc1 := 10) (pc := 7) k_La_thinks_7 rfl ?_
        | refine T_getV (pc1 := 14) (pc := 11) k_La_thinks_11 rfl f_La_116 rfl (by first | assumption | exact ga G (by decide) rfl | exact lgA LG (by omega)) (by first | assumption | (simp (disch := omega) only [pI_eq, pI_row, pI_col, va_up_self, va_up_ne, ne_eq, not_false_eq_true] <;> rfl) | rfl) ?_
        | refine T_ldc (v := (-1000000005)) (pc1 := 16) (pc := 14) k_La_thinks_14 rfl c_La_45 ?_
        | (with_reducible refine T_icmp_neN (tgt := 26) (pc1 := 19) (pc := 16) k_La_thinks_16 (by decide) (by decide) (by omega) (by omega) (fun hc => ?_) (fun hc => ?_) <;> first | (exfalso; omega) | skip)
        | refine T_icmp_ne_t (tgt := 26) (pc := 16) k_La_thinks_16 rfl (by decide) ?_
        | refine T_icmp_ne_f (tgt := 26) (pc1 := 19) (pc := 16) k_La_thinks_16 rfl rfl (by decide) ?_
        | refine T_icmp_ne (tgt := 26) (pc1 := 19) (pc := 16) k_La_thinks_16 rfl rfl (fun hc => ?_) (fun hc => ?_)
        | refine T_getV (pc1 := 23) (pc := 20) k_La_thinks_20 rfl f_La_24 rfl (by first | assumption | exact ga G (by decide) rfl | exact lgA LG (by omega)) (by first | assumption | (simp (disch := omega) only [pI_eq, pI_row, pI_col, va_up_self, va_up_ne, ne_eq, not_false_eq_true] <;> rfl) | rfl) ?_
        | refine T_goto (tgt := 34) (pc := 23) k_La_thinks_23 rfl ?_
        | refine T_aload_n (pc1 := 28) (pc := 27) k_La_thinks_27 rfl rfl ?_
        | refine T_aload_nN (pc1 := 28) (pc := 27) k_La_thinks_27 rfl rfl ?_
        | refine T_getV (pc1 := 31) (pc := 28) k_La_thinks_28 rfl f_La_116 rfl (by first | assumption | exact ga G (by decide) rfl | exact lgA LG (by omega)) (by first | assumption | (simp (disch := omega) only [pI_eq, pI_row, pI_col, va_up_self, va_up_ne, ne_eq, not_false_eq_true] <;> rfl) | rfl) ?_
        | refine T_mmaxV (pc1 := 34) (pc := 31) k_La_thinks_31 rfl l_La_119 (by decide) (Nat.le_of_ble_eq_true rfl) (by with_reducible rfl) (by with_reducible rfl) (by omega) (by omega) ?_
        | refine T_mmax (pc1 := 34) (pc := 31) k_La_thinks_31 rfl l_La_119 (by decide) (Nat.le_of_ble_eq_true rfl) ?_)
      exact kk
    · have hne : ¬ nI s = cNONE := fun q => by
        have := congrArg Int32.toInt q
        rw [nI_toInt (by omega)] at this
        have e : cNONE.toInt = -1000000005 := rfl
        omega
      rw [h5, if_neg hne, ← hld_said hs] at kk
      rw [h5] at f5
      repeat' (first
        | ((first | refine T_astore_n (pc1 := 6) (pc := 5) k_La_thinks_5 rfl (Nat.le_of_ble_eq_true rfl) ?_ | refine T_astore_nN (pc1 := 6) (pc := 5) k_La_thinks_5 rfl (Nat.le_of_ble_eq_true rfl) ?_) <;> try ((first | refine T_aload_n (pc1 := 7) (pc := 6) k_La_thinks_6 rfl rfl ?_ | refine T_aload_nN (pc1 := 7) (pc := 6) k_La_thinks_6 rfl rfl ?_) <;> try ((first | refine T_ifnonnull (tgt := 35) (pc := 7) k_La_thinks_7 rfl ?_ | refine T_ifnonnullN (pc1 := 10) (pc := 7) k_La_thinks_7 rfl ?_))))
        | ((first | refine T_aload_n (pc1 := 11) (pc := 10) k_La_thinks_10 rfl rfl ?_ | refine T_aload_nN (pc1 := 11) (pc := 10) k_La_thinks_10 rfl rfl ?_) <;> try (refine T_getV (pc1 := 14) (pc := 11) k_La_thinks_11 rfl f_La_116 rfl (by first | assumption | exact ga G (by decide) rfl | exact lgA LG (by omega)) (by first | assumption | (simp (disch := omega) only [pI_eq, pI_row, pI_col, va_up_self, va_up_ne, ne_eq, not_false_eq_true] <;> rfl) | rfl) ?_ <;> try (refine T_ldc (v := (-1000000005)) (pc1 := 16) (pc := 14) k_La_thinks_14 rfl c_La_45 ?_ <;> try (refine T_icmp_ne_t (tgt := 26) (pc := 16) k_La_thinks_16 rfl hne ?_))))
        | ((first | refine T_aload_n (pc1 := 20) (pc := 19) k_La_thinks_19 rfl rfl ?_ | refine T_aload_nN (pc1 := 20) (pc := 19) k_La_thinks_19 rfl rfl ?_) <;> try (refine T_getV (pc1 := 23) (pc := 20) k_La_thinks_20 rfl f_La_24 rfl (by first | assumption | exact ga G (by decide) rfl | exact lgA LG (by omega)) (by first | assumption | (simp (disch := omega) only [pI_eq, pI_row, pI_col, va_up_self, va_up_ne, ne_eq, not_false_eq_true] <;> rfl) | rfl) ?_ <;> try (refine T_goto (tgt := 34) (pc := 23) k_La_thinks_23 rfl ?_)))
        | (refine T_iconst (v := (nI 1)) (pc1 := 27) (pc := 26) k_La_thinks_26 rfl (by decide) ?_ <;> try ((first | refine T_aload_n (pc1 := 28) (pc := 27) k_La_thinks_27 rfl rfl ?_ | refine T_aload_nN (pc1 := 28) (pc := 27) k_La_thinks_27 rfl rfl ?_) <;> try (refine T_getV (pc1 := 31) (pc := 28) k_La_thinks_28 rfl f_La_116 rfl (by first | assumption | exact ga G (by decide) rfl | exact lgA LG (by omega)) (by first | assumption | (simp (disch := omega) only [pI_eq, pI_row, pI_col, va_up_self, va_up_ne, ne_eq, not_false_eq_true] <;> rfl) | rfl) ?_ <;> try (refine T_mmax (pc1 := 34) (pc := 31) k_La_thinks_31 rfl l_La_119 (by decide) (Nat.le_of_ble_eq_true rfl) ?_))))
        | (refine T_retI (pc := 34) k_La_thinks_34 rfl (by first | rfl | decide | assumption) ?_)
        | refine T_aload_n (pc1 := 7) (pc := 6) k_La_thinks_6 rfl rfl ?_
        | refine T_aload_nN (pc1 := 7) (pc := 6) k_La_thinks_6 rfl rfl ?_
        | refine T_ifnonnull (tgt := 35) (pc := 7) k_La_thinks_7 rfl ?_
        | refine T_ifnonnullN (pc1 := 10) (pc := 7) k_La_thinks_7 rfl ?_
        | refine T_getV (pc1 := 14) (pc := 11) k_La_thinks_11 rfl f_La_116 rfl (by first | assumption | exact ga G (by decide) rfl | exact lgA LG (by omega)) (by first | assumption | (simp (disch := omega) only [pI_eq, pI_row, pI_col, va_up_self, va_up_ne, ne_eq, not_false_eq_true] <;> rfl) | rfl) ?_
        | refine T_ldc (v := (-1000000005)) (pc1 := 16) (pc := 14) k_La_thinks_14 rfl c_La_45 ?_
        | refine T_icmp_ne_t (tgt := 26) (pc := 16) k_La_thinks_16 rfl hne ?_
        | refine T_getV (pc1 := 23) (pc := 20) k_La_thinks_20 rfl f_La_24 rfl (by first | assumption | exact ga G (by decide) rfl | exact lgA LG (by omega)) (by first | assumption | (simp (disch := omega) only [pI_eq, pI_row, pI_col, va_up_self, va_up_ne, ne_eq, not_false_eq_true] <;> rfl) | rfl) ?_
        | refine T_goto (tgt := 34) (pc := 23) k_La_thinks_23 rfl ?_
        | refine T_aload_n (pc1 := 28) (pc := 27) k_La_thinks_27 rfl rfl ?_
        | refine T_aload_nN (pc1 := 28) (pc := 27) k_La_thinks_27 rfl rfl ?_
        | refine T_getV (pc1 := 31) (pc := 28) k_La_thinks_28 rfl f_La_116 rfl (by first | assumption | exact ga G (by decide) rfl | exact lgA LG (by omega)) (by first | assumption | (simp (disch := omega) only [pI_eq, pI_row, pI_col, va_up_self, va_up_ne, ne_eq, not_false_eq_true] <;> rfl) | rfl) ?_
        | refine T_mmax (pc1 := 34) (pc := 31) k_La_thinks_31 rfl l_La_119 (by decide) (Nat.le_of_ble_eq_true rfl) ?_)
      exact kk
  · rw [htx] at kk
    dsimp only at kk
    repeat' (first
      | ((first | refine T_astore_n (pc1 := 6) (pc := 5) k_La_thinks_5 rfl (Nat.le_of_ble_eq_true rfl) ?_ | refine T_astore_nN (pc1 := 6) (pc := 5) k_La_thinks_5 rfl (Nat.le_of_ble_eq_true rfl) ?_) <;> try ((first | refine T_aload_n (pc1 := 7) (pc := 6) k_La_thinks_6 rfl rfl ?_ | refine T_aload_nN (pc1 := 7) (pc := 6) k_La_thinks_6 rfl rfl ?_) <;> try ((first | refine T_ifnonnull (tgt := 35) (pc := 7) k_La_thinks_7 rfl ?_ | refine T_ifnonnullN (pc1 := 10) (pc := 7) k_La_thinks_7 rfl ?_))))
      | ((first | refine T_aload_n (pc1 := 11) (pc := 10) k_La_thinks_10 rfl rfl ?_ | refine T_aload_nN (pc1 := 11) (pc := 10) k_La_thinks_10 rfl rfl ?_) <;> try (refine T_getV (pc1 := 14) (pc := 11) k_La_thinks_11 rfl f_La_116 rfl (by first | assumption | exact ga G (by decide) rfl | exact lgA LG (by omega)) (by first | assumption | (simp (disch := omega) only [pI_eq, pI_row, pI_col, va_up_self, va_up_ne, ne_eq, not_false_eq_true] <;> rfl) | rfl) ?_ <;> try (refine T_ldc (v := (-1000000005)) (pc1 := 16) (pc := 14) k_La_thinks_14 rfl c_La_45 ?_ <;> try (refine T_icmp_ne_t (tgt := 26) (pc := 16) k_La_thinks_16 rfl hne ?_))))
      | ((first | refine T_aload_n (pc1 := 20) (pc := 19) k_La_thinks_19 rfl rfl ?_ | refine T_aload_nN (pc1 := 20) (pc := 19) k_La_thinks_19 rfl rfl ?_) <;> try (refine T_getV (pc1 := 23) (pc := 20) k_La_thinks_20 rfl f_La_24 rfl (by first | assumption | exact ga G (by decide) rfl | exact lgA LG (by omega)) (by first | assumption | (simp (disch := omega) only [pI_eq, pI_row, pI_col, va_up_self, va_up_ne, ne_eq, not_false_eq_true] <;> rfl) | rfl) ?_ <;> try (refine T_goto (tgt := 34) (pc := 23) k_La_thinks_23 rfl ?_)))
      | (refine T_iconst (v := (nI 1)) (pc1 := 27) (pc := 26) k_La_thinks_26 rfl (by decide) ?_ <;> try ((first | refine T_aload_n (pc1 := 28) (pc := 27) k_La_thinks_27 rfl rfl ?_ | refine T_aload_nN (pc1 := 28) (pc := 27) k_La_thinks_27 rfl rfl ?_) <;> try (refine T_getV (pc1 := 31) (pc := 28) k_La_thinks_28 rfl f_La_116 rfl (by first | assumption | exact ga G (by decide) rfl | exact lgA LG (by omega)) (by first | assumption | (simp (disch := omega) only [pI_eq, pI_row, pI_col, va_up_self, va_up_ne, ne_eq, not_false_eq_true] <;> rfl) | rfl) ?_ <;> try (refine T_mmax (pc1 := 34) (pc := 31) k_La_thinks_31 rfl l_La_119 (by decide) (Nat.le_of_ble_eq_true rfl) ?_))))
      | (refine T_retI (pc := 34) k_La_thinks_34 rfl (by first | rfl | decide | assumption) ?_)
      | ((first | refine T_aload_n (pc1 := 36) (pc := 35) k_La_thinks_35 rfl rfl ?_ | refine T_aload_nN (pc1 := 36) (pc := 35) k_La_thinks_35 rfl rfl ?_) <;> try (refine T_getV (pc1 := 39) (pc := 36) k_La_thinks_36 rfl f_La_116 rfl (by first | assumption | exact ga G (by decide) rfl | exact lgA LG (by omega)) (by first | assumption | (simp (disch := omega) only [pI_eq, pI_row, pI_col, va_up_self, va_up_ne, ne_eq, not_false_eq_true] <;> rfl) | rfl) ?_ <;> try (refine T_ldc (v := (-1000000005)) (pc1 := 41) (pc := 39) k_La_thinks_39 rfl c_La_45 ?_ <;> try (refine T_icmp_ne (tgt := 48) (pc1 := 44) (pc := 41) k_La_thinks_41 rfl rfl (fun hc => ?_) (fun hc => ?_)))))
      | (refine T_iconst (v := (nI 0)) (pc1 := 45) (pc := 44) k_La_thinks_44 rfl (by decide) ?_ <;> try (refine T_goto (tgt := 52) (pc := 45) k_La_thinks_45 rfl ?_))
      | ((first | refine T_aload_n (pc1 := 49) (pc := 48) k_La_thinks_48 rfl rfl ?_ | refine T_aload_nN (pc1 := 49) (pc := 48) k_La_thinks_48 rfl rfl ?_) <;> try (refine T_getV (pc1 := 52) (pc := 49) k_La_thinks_49 rfl f_La_116 rfl (by first | assumption | exact ga G (by decide) rfl | exact lgA LG (by omega)) (by first | assumption | (simp (disch := omega) only [pI_eq, pI_row, pI_col, va_up_self, va_up_ne, ne_eq, not_false_eq_true] <;> rfl) | rfl) ?_))
      | (refine T_istore_n (pc1 := 53) (pc := 52) k_La_thinks_52 rfl (Nat.le_of_ble_eq_true rfl) ?_ <;> try ((first | refine T_aload_n (pc1 := 54) (pc := 53) k_La_thinks_53 rfl rfl ?_ | refine T_aload_nN (pc1 := 54) (pc := 53) k_La_thinks_53 rfl rfl ?_) <;> try (refine T_iload_n (pc1 := 55) (pc := 54) k_La_thinks_54 rfl rfl ?_ <;> try ((first | refine T_aload_n (pc1 := 56) (pc := 55) k_La_thinks_55 rfl rfl ?_ | refine T_aload_nN (pc1 := 56) (pc := 55) k_La_thinks_55 rfl rfl ?_) <;> try (refine T_getV (pc1 := 59) (pc := 56) k_La_thinks_56 rfl f_La_24 rfl (by first | assumption | exact ga G (by decide) rfl | exact lgA LG (by omega)) (by first | assumption | (simp (disch := omega) only [pI_eq, pI_row, pI_col, va_up_self, va_up_ne, ne_eq, not_false_eq_true] <;> rfl) | rfl) ?_ <;> try ((first | refine T_aload_n (pc1 := 60) (pc := 59) k_La_thinks_59 rfl rfl ?_ | refine T_aload_nN (pc1 := 60) (pc := 59) k_La_thinks_59 rfl rfl ?_) <;> try (refine T_getV (pc1 := 63) (pc := 60) k_La_thinks_60 rfl f_La_124 rfl (by first | assumption | exact ga G (by decide) rfl | exact lgA LG (by omega)) (by first | assumption | (simp (disch := omega) only [pI_eq, pI_row, pI_col, va_up_self, va_up_ne, ne_eq, not_false_eq_true] <;> rfl) | rfl) ?_ <;> try ((refine T_cV (As := [_, _, _]) (ci := 6) (n := 4) (d1 := 2) (pc1 := 66) (pc := 63) k_La_thinks_63 rfl (by decide) (Nat.le_of_ble_eq_true rfl) rfl o_Te_value l_La_109 rfl hx.2.2.1 rfl (c_Te_evl ok htx (by decide) hx (fun J hJ => ?_)) <;> try dsimp only [psh]) <;> try (refine T_iconst (v := (nI 1)) (pc1 := 67) (pc := 66) k_La_thinks_66 rfl (by decide) ?_ <;> try (refine T_sipush (v := (nI 999)) (pc1 := 70) (pc := 67) k_La_thinks_67 rfl (by decide) ?_ <;> try ((refine T_cN (As := [_, _, _]) (d1 := 1) (pc1 := 73) (pc := 70) k_La_thinks_70 rfl (by decide) (Nat.le_of_ble_eq_true rfl) rfl o_S_heldWithin l_La_113 rfl (c_S_heldWithin ?_) <;> try dsimp only [psh]) <;> try (refine T_retI (pc := 73) k_La_thinks_73 rfl (by first | rfl | decide | assumption) ?_))))))))))))
      | refine T_aload_n (pc1 := 7) (pc := 6) k_La_thinks_6 rfl rfl ?_
      | refine T_aload_nN (pc1 := 7) (pc := 6) k_La_thinks_6 rfl rfl ?_
      | refine T_ifnonnull (tgt := 35) (pc := 7) k_La_thinks_7 rfl ?_
      | refine T_ifnonnullN (pc1 := 10) (pc := 7) k_La_thinks_7 rfl ?_
      | refine T_getV (pc1 := 14) (pc := 11) k_La_thinks_11 rfl f_La_116 rfl (by first | assumption | exact ga G (by decide) rfl | exact lgA LG (by omega)) (by first | assumption | (simp (disch := omega) only [pI_eq, pI_row, pI_col, va_up_self, va_up_ne, ne_eq, not_false_eq_true] <;> rfl) | rfl) ?_
      | refine T_ldc (v := (-1000000005)) (pc1 := 16) (pc := 14) k_La_thinks_14 rfl c_La_45 ?_
      | refine T_icmp_ne_t (tgt := 26) (pc := 16) k_La_thinks_16 rfl hne ?_
      | refine T_getV (pc1 := 23) (pc := 20) k_La_thinks_20 rfl f_La_24 rfl (by first | assumption | exact ga G (by decide) rfl | exact lgA LG (by omega)) (by first | assumption | (simp (disch := omega) only [pI_eq, pI_row, pI_col, va_up_self, va_up_ne, ne_eq, not_false_eq_true] <;> rfl) | rfl) ?_
      | refine T_goto (tgt := 34) (pc := 23) k_La_thinks_23 rfl ?_
      | refine T_aload_n (pc1 := 28) (pc := 27) k_La_thinks_27 rfl rfl ?_
      | refine T_aload_nN (pc1 := 28) (pc := 27) k_La_thinks_27 rfl rfl ?_
      | refine T_getV (pc1 := 31) (pc := 28) k_La_thinks_28 rfl f_La_116 rfl (by first | assumption | exact ga G (by decide) rfl | exact lgA LG (by omega)) (by first | assumption | (simp (disch := omega) only [pI_eq, pI_row, pI_col, va_up_self, va_up_ne, ne_eq, not_false_eq_true] <;> rfl) | rfl) ?_
      | refine T_mmax (pc1 := 34) (pc := 31) k_La_thinks_31 rfl l_La_119 (by decide) (Nat.le_of_ble_eq_true rfl) ?_
      | refine T_getV (pc1 := 39) (pc := 36) k_La_thinks_36 rfl f_La_116 rfl (by first | assumption | exact ga G (by decide) rfl | exact lgA LG (by omega)) (by first | assumption | (simp (disch := omega) only [pI_eq, pI_row, pI_col, va_up_self, va_up_ne, ne_eq, not_false_eq_true] <;> rfl) | rfl) ?_
      | refine T_ldc (v := (-1000000005)) (pc1 := 41) (pc := 39) k_La_thinks_39 rfl c_La_45 ?_
      | refine T_icmp_ne (tgt := 48) (pc1 := 44) (pc := 41) k_La_thinks_41 rfl rfl (fun hc => ?_) (fun hc => ?_)
      | refine T_goto (tgt := 52) (pc := 45) k_La_thinks_45 rfl ?_
      | refine T_getV (pc1 := 52) (pc := 49) k_La_thinks_49 rfl f_La_116 rfl (by first | assumption | exact ga G (by decide) rfl | exact lgA LG (by omega)) (by first | assumption | (simp (disch := omega) only [pI_eq, pI_row, pI_col, va_up_self, va_up_ne, ne_eq, not_false_eq_true] <;> rfl) | rfl) ?_
      | refine T_aload_n (pc1 := 54) (pc := 53) k_La_thinks_53 rfl rfl ?_
      | refine T_aload_nN (pc1 := 54) (pc := 53) k_La_thinks_53 rfl rfl ?_
      | refine T_iload_n (pc1 := 55) (pc := 54) k_La_thinks_54 rfl rfl ?_
      | refine T_aload_n (pc1 := 56) (pc := 55) k_La_thinks_55 rfl rfl ?_
      | refine T_aload_nN (pc1 := 56) (pc := 55) k_La_thinks_55 rfl rfl ?_
      | refine T_getV (pc1 := 59) (pc := 56) k_La_thinks_56 rfl f_La_24 rfl (by first | assumption | exact ga G (by decide) rfl | exact lgA LG (by omega)) (by first | assumption | (simp (disch := omega) only [pI_eq, pI_row, pI_col, va_up_self, va_up_ne, ne_eq, not_false_eq_true] <;> rfl) | rfl) ?_
      | refine T_aload_n (pc1 := 60) (pc := 59) k_La_thinks_59 rfl rfl ?_
      | refine T_aload_nN (pc1 := 60) (pc := 59) k_La_thinks_59 rfl rfl ?_
      | refine T_getV (pc1 := 63) (pc := 60) k_La_thinks_60 rfl f_La_124 rfl (by first | assumption | exact ga G (by decide) rfl | exact lgA LG (by omega)) (by first | assumption | (simp (disch := omega) only [pI_eq, pI_row, pI_col, va_up_self, va_up_ne, ne_eq, not_false_eq_true] <;> rfl) | rfl) ?_
      | (refine T_cV (As := [_, _, _]) (ci := 6) (n := 4) (d1 := 2) (pc1 := 66) (pc := 63) k_La_thinks_63 rfl (by decide) (Nat.le_of_ble_eq_true rfl) rfl o_Te_value l_La_109 rfl hx.2.2.1 rfl (c_Te_evl ok htx (by decide) hx (fun J hJ => ?_)) <;> try dsimp only [psh])
      | refine T_iconst (v := (nI 1)) (pc1 := 67) (pc := 66) k_La_thinks_66 rfl (by decide) ?_
      | refine T_sipush (v := (nI 999)) (pc1 := 70) (pc := 67) k_La_thinks_67 rfl (by decide) ?_
      | (refine T_cN (As := [_, _, _]) (d1 := 1) (pc1 := 73) (pc := 70) k_La_thinks_70 rfl (by decide) (Nat.le_of_ble_eq_true rfl) rfl o_S_heldWithin l_La_113 rfl (c_S_heldWithin ?_) <;> try dsimp only [psh])
      | refine T_retI (pc := 73) k_La_thinks_73 rfl (by first | rfl | decide | assumption) ?_)
    · rw [if_neg hc] at kk
      exact kk J hJ
    · rw [if_pos (Decidable.not_not.mp hc)] at kk
      exact kk J hJ
end C3
