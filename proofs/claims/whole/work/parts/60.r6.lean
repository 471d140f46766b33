/-! The class: a text is made and kept. -/
section PT1
theorem dp_cong {C C' : Row} : ∀ m, (∀ k, k < m → C' k = C k) → dp C' m = dp C m
  | 0, _ => rfl
  | m + 1, h => by
    unfold dp
    rw [dp_cong m (fun k hk => h k (by omega)), h m (by omega)]
theorem okc_cong {C C' : Row} {m lv nn : Nat} (ok : okc C m lv nn) (h : ∀ k, k < m → C' k = C k) : okc C' m lv nn := by
  refine ⟨fun k hk => ?_, by rw [dp_cong m h]; exact ok.2⟩
  rw [h k hk, dp_cong k (fun j hj => h j (by omega))]
  exact ok.1 k hk
theorem tAdd_lo {N : Row} {t key k : Nat} {p : PS} (hk : k < 156 + 100 * t) (h6 : k ≠ 6) : tAdd N t key p k = N k := by
  unfold tAdd
  rw [va_up_ne _ _ h6, pk_cpy_out (by omega), va_up_ne _ _ (by omega), va_up_ne _ _ (by omega), va_up_ne _ _ (by omega)]
theorem tAdd_0 {N : Row} {t key : Nat} {p : PS} : tAdd N t key p (156 + 100 * t) = nI key := by
  unfold tAdd
  rw [va_up_ne _ _ (by omega), pk_cpy_out (by omega), va_up_ne _ _ (by omega), va_up_ne _ _ (by omega), Nat.add_zero, va_up_self]
theorem tAdd_1 {N : Row} {t key : Nat} {p : PS} : tAdd N t key p (157 + 100 * t) = nI (pV p) := by
  unfold tAdd
  rw [va_up_ne _ _ (by omega), pk_cpy_out (by omega), va_up_ne _ _ (by omega), show 157 + 100 * t = 156 + 100 * t + 1 by omega, va_up_self]
theorem tAdd_2 {N : Row} {t key : Nat} {p : PS} : tAdd N t key p (158 + 100 * t) = nI (pM p) := by
  unfold tAdd
  rw [va_up_ne _ _ (by omega), pk_cpy_out (by omega), show 158 + 100 * t = 156 + 100 * t + 2 by omega, va_up_self]
theorem tAdd_c {N : Row} {t key k : Nat} {p : PS} (hk : k < pM p) : cod (tAdd N t key p) t k = pC p k := by
  unfold cod tAdd
  rw [va_up_ne _ _ (by omega), pk_cpy_in (by omega) (by omega), Nat.zero_add]
  congr 1
  omega
theorem tAdd_cod {N : Row} {t key s : Nat} {p : PS} (hs : s < t) : ∀ k, k < 97 → cod (tAdd N t key p) s k = cod N s k := fun k hk => by
  unfold cod
  exact tAdd_lo (by omega) (by omega)
theorem okL_tAdd {N : Row} {n tn key : Nat} {p : PS} (ok : okL N n tn) (ht : tn < 14) (hk : key < 3) (oc : okc (pC p) (pM p) (pV p) (nnOf key)) (hm : pM p ≤ 95) (hv : pV p ≤ 95) : okL (tAdd N tn key p) n (tn + 1) := by
  obtain ⟨a1, a2, a3, a4, a5, a6, a7, a8⟩ := ok
  refine ⟨(tAdd_lo (by omega) (by decide)).trans a1, a2, tAdd_m, by omega, fun b hb => okB_agr (fun k hk => tAdd_lo (by omega) (by omega)) (a5 b hb), fun t htt => ?_, by rw [tAdd_lo (by omega) (by decide)]; exact a7, by rw [tAdd_lo (by omega) (by decide)]; exact a8⟩
  by_cases h : t = tn
  · subst h
    exact ⟨key, pV p, pM p, tAdd_0, hk, tAdd_1, by omega, tAdd_2, by omega, okc_cong oc (fun k hk => tAdd_c hk)⟩
  · obtain ⟨key', lv, m, b1, b2, b3, b4, b5, b6, b7⟩ := a6 t (by omega)
    exact ⟨key', lv, m, (tAdd_lo (by omega) (by omega)).trans b1, b2, (tAdd_lo (by omega) (by omega)).trans b3, b4, (tAdd_lo (by omega) (by omega)).trans b5, b6, okc_cong b7 (fun k hk => tAdd_cod (by omega) k (by omega))⟩
theorem txt_tAdd {N : Row} {tn key key' : Nat} {p : PS} (hk : key < 3) (hk' : key' < 3) : txt (tAdd N tn key p) key' (tn + 1) = if key' = key then some tn else txt N key' tn := by
  have e : ∀ t, t ≤ tn → txt (tAdd N tn key p) key' t = txt N key' t := by
    intro t
    induction t with
    | zero => intro _; rfl
    | succ t ih =>
      intro ht
      unfold txt
      rw [tAdd_lo (by omega) (by omega), ih (by omega)]
  rw [txt, tAdd_0, e tn (Nat.le_refl _)]
  by_cases h : key' = key
  · rw [if_pos h, if_pos (by rw [h])]
  · rw [if_neg h, if_neg (fun q => h ((nI_eq (by omega) (by omega)).mp q).symm)]
/-- the geometry grows -/
def GX (g g' : Geo) : Prop := g'.1 = g.1 ∧ gz g ≤ gz g' ∧ ∀ i, i < gz g → gk g' i = gk g i ∧ (i ≠ 3 → gR g' i = gR g i)
theorem GX_rf {g : Geo} : GX g g := ⟨rfl, Nat.le_refl _, fun _ _ => ⟨rfl, fun _ => rfl⟩⟩
theorem GX_tr {g g' h : Geo} (h1 : GX g g') (h2 : GX g' h) : GX g h := ⟨h2.1.trans h1.1, Nat.le_trans h1.2.1 h2.2.1, fun i hi => ⟨(h2.2.2 i (Nat.lt_of_lt_of_le hi h1.2.1)).1.trans (h1.2.2 i hi).1, fun q => ((h2.2.2 i (Nat.lt_of_lt_of_le hi h1.2.1)).2 q).trans ((h1.2.2 i hi).2 q)⟩⟩
theorem GX_al {g : Geo} {t n : Nat} : GX g (galloc g t n) := ⟨rfl, Nat.le_succ _, fun i hi => ⟨va_up_ne _ _ (Nat.ne_of_lt hi), fun _ => va_up_ne _ _ (Nat.ne_of_lt hi)⟩⟩
theorem GX_pn {g g0 : Geo} {i k : Nat} {v : Option Nat} (h : GX g0 g) (hi : gz g0 ≤ i ∨ i = 3) : GX g0 (gpR g i k v) := by
  refine ⟨h.1, h.2.1, fun j hj => ⟨(h.2.2 j hj).1, fun q => ?_⟩⟩
  have e : gR (gpR g i k v) j = gR g j := va_up_ne _ _ (by omega)
  rw [e]
  exact (h.2.2 j hj).2 q
theorem GX_A {g g' : Geo} (h : GX g g') {i t n : Nat} (ha : isAg g i t n) : isAg g' i t n := ⟨Nat.lt_of_lt_of_le ha.1 h.2.1, (h.2.2 i ha.1).1.trans ha.2⟩
theorem GX_G {g g' : Geo} (h : GX g g') (G : GeoOK g) (hz : gz g' ≤ 1000) : GeoOK g' := by
  obtain ⟨h1, h2, h3, h4⟩ := G
  exact ⟨Nat.le_trans h1 h.2.1, hz, fun i hi => (h.2.2 i (by omega)).1.trans (h3 i hi), fun i k hi a b c => by rw [(h.2.2 i (by omega)).2 a]; exact h4 i k hi a b c⟩
theorem GX_T {g g' : Geo} {I J : IM} {N : Row} {t q : Nat} (h : GX g g') (T : TxR g I N t q) (e0 : J q = I q) (e1 : J (q + 1) = I (q + 1)) : TxR g' J N t q := by
  obtain ⟨h1, h2, h3, h4, h5, h6, h7, h8, h9, h10⟩ := T
  refine ⟨h1, h2, GX_A h h3, ?_, ?_, by rw [e0]; exact h6, by rw [e0]; exact h7, GX_A h h8, GX_A h h9, fun k hk => by rw [e1]; exact h10 k hk⟩
  · rw [(h.2.2 q h3.1).2 (by omega)]; exact h4
  · rw [(h.2.2 q h3.1).2 (by omega)]; exact h5
/-- a land that isn't touched while a text is made -/
theorem GX_L {g g' : Geo} {I J : IM} {a n tn : Nat} {N : Row} (h : GX g g') (G : GeoOK g) (ha : a = 21) (hL : LaR g I a N n tn) (hn : n ≤ 14) (hJ : ∀ i, i < gz g → (21 ≤ i ∧ i < 41) ∨ 121 ≤ i → J i = I i) : LaR g' J a N n tn := by
  subst ha
  have z := G.1
  obtain ⟨⟨t1, t2, t3⟩, ⟨b1, b2, b3, b4⟩, ⟨w0, w1, w2, w3, w4, w5⟩, s1, s2, s3⟩ := hL
  have e : ∀ i, 21 ≤ i → i < 41 → J i = I i := fun i p q => hJ i (by omega) (Or.inl ⟨p, q⟩)
  refine ⟨⟨fun key hk => by rw [e _ (by omega) (by omega)]; exact t1 key hk, by rw [e _ (by omega) (by omega)]; exact t2, fun t ht => ?_⟩, ⟨by rw [e _ (by omega) (by omega)]; exact b1, by rw [e _ (by omega) (by omega)]; exact b2, by rw [e _ (by omega) (by omega)]; exact b3, fun b hb k hk => by rw [e _ (by omega) (by omega)]; exact b4 b hb k hk⟩, ⟨by rw [e _ (by omega) (by omega)]; exact w0, by rw [e _ (by omega) (by omega)]; exact w1, by rw [e _ (by omega) (by omega)]; exact w2, by rw [e _ (by omega) (by omega)]; exact w3, by rw [e _ (by omega) (by omega)]; exact w4, fun i hi => by rw [e _ (by omega) (by omega)]; exact w5 i hi⟩, by rw [e _ (by omega) (by omega)]; exact s1, by rw [e _ (by omega) (by omega)]; exact s2, by rw [e _ (by omega) (by omega)]; exact s3⟩
  obtain ⟨q, hq, hx⟩ := t3 t ht
  refine ⟨q, by rw [(h.2.2 _ (by omega)).2 (by omega)]; exact hq, GX_T h hx ?_ ?_⟩
  · exact hJ q hx.2.2.1.1 (Or.inr hx.1)
  · exact hJ (q + 1) hx.2.2.2.2.2.2.2.1.1 (Or.inr (by have := hx.1; omega))
end PT1
section R6
variable {g : Geo} {I : IM} {K : Option Value → Geo → IM → Prop}
theorem al_A {g : Geo} {t n : Nat} : isAg (galloc g t n) (gz g) t n := ⟨Nat.lt_succ_self _, va_up_self _ _ _⟩
theorem c_Ja_copyOf {i n m : Nat} (hA : isAg g i 100 n) (hn : n < 1000) (hm : m < n) (hz : gz g < 1000) (kk : ∀ J, (∀ j, j ≠ gz g → J j = I j) → (∀ k, k < m → J (gz g) k = I i k) → K (some (.ref (gz g))) (galloc g 100 m) J) : Cl 1 M_Ja_copyOf [.ref i, .int (nI m)] g I K := by
  show Rl 1 M_Ja_copyOf 0 [some (.ref i), some (.int (nI m)), none] [] g I K
  have cm : (nI m).toNatClampNeg = m := nI_clamp (by omega)
  have c0 : (nI 0).toNatClampNeg = 0 := rfl
  have hi : i ≠ gz g := Nat.ne_of_lt hA.1
  have hA2 : isAg (galloc g 100 m) i 100 n := GX_A GX_al hA
  have hB : isAg (galloc g 100 m) (gz g) 100 m := al_A
  repeat' (first
    | (refine T_iload_n (pc1 := 1) (pc := 0) k_Ja_copyOf_0 rfl rfl ?_ <;> try ((first | refine T_aload_n (pc1 := 2) (pc := 1) k_Ja_copyOf_1 rfl rfl ?_ | refine T_aload_nN (pc1 := 2) (pc := 1) k_Ja_copyOf_1 rfl rfl ?_) <;> try ((first | refine T_alenN (pc1 := 3) (pc := 2) k_Ja_copyOf_2 rfl (by first | assumption | exact ga G (by decide) rfl | exact lgA LG (by omega)) ?_ | refine T_sclen (pc1 := 3) (pc := 2) k_Ja_copyOf_2 rfl ?_) <;> try ((first | (with_reducible refine T_icmp_neN (tgt := 14) (pc1 := 6) (pc := 3) k_Ja_copyOf_3 (by decide) (by decide) (by omega) (by omega) (fun hc => ?_) (fun hc => ?_) <;> first | (exfalso; omega) | skip) | refine T_icmp_ne_t (tgt := 14) (pc := 3) k_Ja_copyOf_3 rfl (by decide) ?_ | refine T_icmp_ne_f (tgt := 14) (pc1 := 6) (pc := 3) k_Ja_copyOf_3 rfl rfl (by decide) ?_ | refine T_icmp_ne (tgt := 14) (pc1 := 6) (pc := 3) k_Ja_copyOf_3 rfl rfl (fun hc => ?_) (fun hc => ?_))))))
    | ((first | refine T_aload_n (pc1 := 7) (pc := 6) k_Ja_copyOf_6 rfl rfl ?_ | refine T_aload_nN (pc1 := 7) (pc := 6) k_Ja_copyOf_6 rfl rfl ?_))
    | ((first | refine T_retA (pc := 13) k_Ja_copyOf_13 rfl (by first | exact Or.inl ⟨_, rfl⟩ | exact Or.inr ⟨_, rfl⟩) ?_ | refine T_retN (pc := 13) k_Ja_copyOf_13 rfl (by first | exact Or.inl ⟨_, rfl⟩ | exact Or.inr ⟨_, rfl⟩) ?_))
    | (refine T_iload_n (pc1 := 15) (pc := 14) k_Ja_copyOf_14 rfl rfl ?_ <;> try (refine T_newa (n := m) (pc1 := 17) (pc := 15) k_Ja_copyOf_15 rfl (nI_pos (by omega)) cm (by omega) (by omega) ?_ <;> try ((first | refine T_astore_n (pc1 := 18) (pc := 17) k_Ja_copyOf_17 rfl (Nat.le_of_ble_eq_true rfl) ?_ | refine T_astore_nN (pc1 := 18) (pc := 17) k_Ja_copyOf_17 rfl (Nat.le_of_ble_eq_true rfl) ?_) <;> try ((first | refine T_aload_n (pc1 := 19) (pc := 18) k_Ja_copyOf_18 rfl rfl ?_ | refine T_aload_nN (pc1 := 19) (pc := 18) k_Ja_copyOf_18 rfl rfl ?_) <;> try (refine T_iconst (v := (nI 0)) (pc1 := 20) (pc := 19) k_Ja_copyOf_19 rfl (by decide) ?_ <;> try ((first | refine T_aload_n (pc1 := 21) (pc := 20) k_Ja_copyOf_20 rfl rfl ?_ | refine T_aload_nN (pc1 := 21) (pc := 20) k_Ja_copyOf_20 rfl rfl ?_) <;> try (refine T_iconst (v := (nI 0)) (pc1 := 22) (pc := 21) k_Ja_copyOf_21 rfl (by decide) ?_ <;> try ((first | refine T_aload_n (pc1 := 23) (pc := 22) k_Ja_copyOf_22 rfl rfl ?_ | refine T_aload_nN (pc1 := 23) (pc := 22) k_Ja_copyOf_22 rfl rfl ?_) <;> try ((first | refine T_alenN (pc1 := 24) (pc := 23) k_Ja_copyOf_23 rfl (by first | assumption | exact ga G (by decide) rfl | exact lgA LG (by omega)) ?_ | refine T_sclen (pc1 := 24) (pc := 23) k_Ja_copyOf_23 rfl ?_) <;> try (refine T_iload_n (pc1 := 25) (pc := 24) k_Ja_copyOf_24 rfl rfl ?_ <;> try ((refine T_mminN (pc1 := 28) (pc := 25) k_Ja_copyOf_25 rfl l_Ja_304 (by decide) (Nat.le_of_ble_eq_true rfl) (by omega) (by omega) ?_; rw [show min n m = m by omega]) <;> try ((refine T_acopy (pc1 := 31) (pc := 28) k_Ja_copyOf_28 rfl l_Ja_150 (by decide) (Nat.le_of_ble_eq_true rfl) hA2 hB (by decide) (by decide) (nI_pos (by omega)) (by rw [c0, cm]; omega) (by rw [c0, cm]; omega) ?_; rw [c0, cm]) <;> try ((first | refine T_aload_n (pc1 := 32) (pc := 31) k_Ja_copyOf_31 rfl rfl ?_ | refine T_aload_nN (pc1 := 32) (pc := 31) k_Ja_copyOf_31 rfl rfl ?_) <;> try ((first | refine T_retA (pc := 32) k_Ja_copyOf_32 rfl (by first | exact Or.inl ⟨_, rfl⟩ | exact Or.inr ⟨_, rfl⟩) ?_ | refine T_retN (pc := 32) k_Ja_copyOf_32 rfl (by first | exact Or.inl ⟨_, rfl⟩ | exact Or.inr ⟨_, rfl⟩) ?_)))))))))))))))
    | refine T_aload_n (pc1 := 2) (pc := 1) k_Ja_copyOf_1 rfl rfl ?_
    | refine T_aload_nN (pc1 := 2) (pc := 1) k_Ja_copyOf_1 rfl rfl ?_
    | refine T_alenN (pc1 := 3) (pc := 2) k_Ja_copyOf_2 rfl (by first | assumption | exact ga G (by decide) rfl | exact lgA LG (by omega)) ?_
    | refine T_sclen (pc1 := 3) (pc := 2) k_Ja_copyOf_2 rfl ?_
    | (with_reducible refine T_icmp_neN (tgt := 14) (pc1 := 6) (pc := 3) k_Ja_copyOf_3 (by decide) (by decide) (by omega) (by omega) (fun hc => ?_) (fun hc => ?_) <;> first | (exfalso; omega) | skip)
    | refine T_icmp_ne_t (tgt := 14) (pc := 3) k_Ja_copyOf_3 rfl (by decide) ?_
    | refine T_icmp_ne_f (tgt := 14) (pc1 := 6) (pc := 3) k_Ja_copyOf_3 rfl rfl (by decide) ?_
    | refine T_icmp_ne (tgt := 14) (pc1 := 6) (pc := 3) k_Ja_copyOf_3 rfl rfl (fun hc => ?_) (fun hc => ?_)
    | refine T_newa (n := m) (pc1 := 17) (pc := 15) k_Ja_copyOf_15 rfl (nI_pos (by omega)) cm (by omega) (by omega) ?_
    | refine T_astore_n (pc1 := 18) (pc := 17) k_Ja_copyOf_17 rfl (Nat.le_of_ble_eq_true rfl) ?_
    | refine T_astore_nN (pc1 := 18) (pc := 17) k_Ja_copyOf_17 rfl (Nat.le_of_ble_eq_true rfl) ?_
    | refine T_aload_n (pc1 := 19) (pc := 18) k_Ja_copyOf_18 rfl rfl ?_
    | refine T_aload_nN (pc1 := 19) (pc := 18) k_Ja_copyOf_18 rfl rfl ?_
    | refine T_iconst (v := (nI 0)) (pc1 := 20) (pc := 19) k_Ja_copyOf_19 rfl (by decide) ?_
    | refine T_aload_n (pc1 := 21) (pc := 20) k_Ja_copyOf_20 rfl rfl ?_
    | refine T_aload_nN (pc1 := 21) (pc := 20) k_Ja_copyOf_20 rfl rfl ?_
    | refine T_iconst (v := (nI 0)) (pc1 := 22) (pc := 21) k_Ja_copyOf_21 rfl (by decide) ?_
    | refine T_aload_n (pc1 := 23) (pc := 22) k_Ja_copyOf_22 rfl rfl ?_
    | refine T_aload_nN (pc1 := 23) (pc := 22) k_Ja_copyOf_22 rfl rfl ?_
    | refine T_alenN (pc1 := 24) (pc := 23) k_Ja_copyOf_23 rfl (by first | assumption | exact ga G (by decide) rfl | exact lgA LG (by omega)) ?_
    | refine T_sclen (pc1 := 24) (pc := 23) k_Ja_copyOf_23 rfl ?_
    | refine T_iload_n (pc1 := 25) (pc := 24) k_Ja_copyOf_24 rfl rfl ?_
    | (refine T_mminN (pc1 := 28) (pc := 25) k_Ja_copyOf_25 rfl l_Ja_304 (by decide) (Nat.le_of_ble_eq_true rfl) (by omega) (by omega) ?_; rw [show min n m = m by omega])
    | (refine T_acopy (pc1 := 31) (pc := 28) k_Ja_copyOf_28 rfl l_Ja_150 (by decide) (Nat.le_of_ble_eq_true rfl) hA2 hB (by decide) (by decide) (nI_pos (by omega)) (by rw [c0, cm]; omega) (by rw [c0, cm]; omega) ?_; rw [c0, cm])
    | refine T_aload_n (pc1 := 32) (pc := 31) k_Ja_copyOf_31 rfl rfl ?_
    | refine T_aload_nN (pc1 := 32) (pc := 31) k_Ja_copyOf_31 rfl rfl ?_
    | refine T_retA (pc := 32) k_Ja_copyOf_32 rfl (by first | exact Or.inl ⟨_, rfl⟩ | exact Or.inr ⟨_, rfl⟩) ?_
    | refine T_retN (pc := 32) k_Ja_copyOf_32 rfl (by first | exact Or.inl ⟨_, rfl⟩ | exact Or.inr ⟨_, rfl⟩) ?_)
  all_goals try (exfalso; omega)
  refine kk _ (fun j hj => by rw [va_up_ne _ _ hj, va_up_ne _ _ hj]) (fun k hk => ?_)
  rw [va_up_self, pk_cpy_in (by omega) (by omega), Nat.zero_add, Nat.sub_zero, va_up_ne _ _ hi]
theorem c_Te_init {q c lv : Nat} {key : Int32} (hA : isAg g q 6 4) (hlv1 : 1 ≤ lv) (hlv : lv ≤ 96) (hz : gz g < 1000) (hq : q < gz g) (kk : ∀ g' J, g' = gpR (galloc (gpR g q 2 (some c)) 100 lv) q 3 (some (gz g)) → (∀ j, j ≠ gz g → j ≠ q → J j = I j) → J q 0 = key → J q 1 = nI lv → K none g' J) : Cl 1 M_Te_init [.ref q, .int key, .int (nI lv), .ref c] g I K := by
  show Rl 1 M_Te_init 0 [some (.ref q), some (.int key), some (.int (nI lv)), some (.ref c)] [] g I K
  have cl : (nI lv).toNatClampNeg = lv := nI_clamp (by omega)
  have ml : max 1 lv = lv := by omega
  have hA2 : isAg (gpR g q 2 (some c)) q 6 4 := hA
  have hA3 : isAg (galloc (gpR g q 2 (some c)) 100 lv) q 6 4 := GX_A (g := gpR g q 2 (some c)) GX_al hA2
  repeat' (first
    | ((first | refine T_aload_n (pc1 := 1) (pc := 0) k_Te_init_0 rfl rfl ?_ | refine T_aload_nN (pc1 := 1) (pc := 0) k_Te_init_0 rfl rfl ?_) <;> try (refine T_objInit (pc1 := 4) (pc := 1) k_Te_init_1 rfl l_Te_3 (by decide) (Nat.le_of_ble_eq_true rfl) ?_ <;> try ((first | refine T_aload_n (pc1 := 5) (pc := 4) k_Te_init_4 rfl rfl ?_ | refine T_aload_nN (pc1 := 5) (pc := 4) k_Te_init_4 rfl rfl ?_) <;> try (refine T_iload_n (pc1 := 6) (pc := 5) k_Te_init_5 rfl rfl ?_ <;> try (refine T_putIF (pc1 := 9) (pc := 6) k_Te_init_6 rfl f_Te_9 rfl (by first | assumption | exact ga G (by decide) rfl | exact lgA LG (by omega)) rfl rfl ⟨rfl, rfl⟩ ?_ <;> try ((first | refine T_aload_n (pc1 := 10) (pc := 9) k_Te_init_9 rfl rfl ?_ | refine T_aload_nN (pc1 := 10) (pc := 9) k_Te_init_9 rfl rfl ?_) <;> try (refine T_iload_n (pc1 := 11) (pc := 10) k_Te_init_10 rfl rfl ?_ <;> try (refine T_putIF (pc1 := 14) (pc := 11) k_Te_init_11 rfl f_Te_15 rfl (by first | assumption | exact ga G (by decide) rfl | exact lgA LG (by omega)) rfl rfl ⟨rfl, rfl⟩ ?_ <;> try ((first | refine T_aload_n (pc1 := 15) (pc := 14) k_Te_init_14 rfl rfl ?_ | refine T_aload_nN (pc1 := 15) (pc := 14) k_Te_init_14 rfl rfl ?_) <;> try ((first | refine T_aload_n (pc1 := 16) (pc := 15) k_Te_init_15 rfl rfl ?_ | refine T_aload_nN (pc1 := 16) (pc := 15) k_Te_init_15 rfl rfl ?_) <;> try (refine T_putRF (pc1 := 19) (pc := 16) k_Te_init_16 rfl f_Te_18 rfl (by first | assumption | exact ga G (by decide) rfl | exact lgA LG (by omega)) (by first | exact Or.inl ⟨_, rfl⟩ | exact Or.inr ⟨_, rfl⟩) ⟨rfl, rfl⟩ ?_ <;> try ((first | refine T_aload_n (pc1 := 20) (pc := 19) k_Te_init_19 rfl rfl ?_ | refine T_aload_nN (pc1 := 20) (pc := 19) k_Te_init_19 rfl rfl ?_) <;> try (refine T_iconst (v := (nI 1)) (pc1 := 21) (pc := 20) k_Te_init_20 rfl (by decide) ?_ <;> try (refine T_iload_n (pc1 := 22) (pc := 21) k_Te_init_21 rfl rfl ?_))))))))))))))
    | ((refine T_mmaxN (pc1 := 25) (pc := 22) k_Te_init_22 rfl l_Te_22 (by decide) (Nat.le_of_ble_eq_true rfl) (by omega) (by omega) ?_; rw [ml]) <;> try (refine T_newa (n := lv) (pc1 := 27) (pc := 25) k_Te_init_25 rfl (nI_pos (by omega)) cl (by omega) (show gz g < 1000000 by omega) ?_ <;> try (refine T_putRF (pc1 := 30) (pc := 27) k_Te_init_27 rfl f_Te_28 rfl (by first | assumption | exact ga G (by decide) rfl | exact lgA LG (by omega)) (by first | exact Or.inl ⟨_, rfl⟩ | exact Or.inr ⟨_, rfl⟩) ⟨rfl, rfl⟩ ?_ <;> try (refine T_retV (pc := 30) k_Te_init_30 rfl ?_))))
    | refine T_objInit (pc1 := 4) (pc := 1) k_Te_init_1 rfl l_Te_3 (by decide) (Nat.le_of_ble_eq_true rfl) ?_
    | refine T_aload_n (pc1 := 5) (pc := 4) k_Te_init_4 rfl rfl ?_
    | refine T_aload_nN (pc1 := 5) (pc := 4) k_Te_init_4 rfl rfl ?_
    | refine T_iload_n (pc1 := 6) (pc := 5) k_Te_init_5 rfl rfl ?_
    | refine T_putIF (pc1 := 9) (pc := 6) k_Te_init_6 rfl f_Te_9 rfl (by first | assumption | exact ga G (by decide) rfl | exact lgA LG (by omega)) rfl rfl ⟨rfl, rfl⟩ ?_
    | refine T_aload_n (pc1 := 10) (pc := 9) k_Te_init_9 rfl rfl ?_
    | refine T_aload_nN (pc1 := 10) (pc := 9) k_Te_init_9 rfl rfl ?_
    | refine T_iload_n (pc1 := 11) (pc := 10) k_Te_init_10 rfl rfl ?_
    | refine T_putIF (pc1 := 14) (pc := 11) k_Te_init_11 rfl f_Te_15 rfl (by first | assumption | exact ga G (by decide) rfl | exact lgA LG (by omega)) rfl rfl ⟨rfl, rfl⟩ ?_
    | refine T_aload_n (pc1 := 15) (pc := 14) k_Te_init_14 rfl rfl ?_
    | refine T_aload_nN (pc1 := 15) (pc := 14) k_Te_init_14 rfl rfl ?_
    | refine T_aload_n (pc1 := 16) (pc := 15) k_Te_init_15 rfl rfl ?_
    | refine T_aload_nN (pc1 := 16) (pc := 15) k_Te_init_15 rfl rfl ?_
    | refine T_putRF (pc1 := 19) (pc := 16) k_Te_init_16 rfl f_Te_18 rfl (by first | assumption | exact ga G (by decide) rfl | exact lgA LG (by omega)) (by first | exact Or.inl ⟨_, rfl⟩ | exact Or.inr ⟨_, rfl⟩) ⟨rfl, rfl⟩ ?_
    | refine T_aload_n (pc1 := 20) (pc := 19) k_Te_init_19 rfl rfl ?_
    | refine T_aload_nN (pc1 := 20) (pc := 19) k_Te_init_19 rfl rfl ?_
    | refine T_iconst (v := (nI 1)) (pc1 := 21) (pc := 20) k_Te_init_20 rfl (by decide) ?_
    | refine T_iload_n (pc1 := 22) (pc := 21) k_Te_init_21 rfl rfl ?_
    | refine T_newa (n := lv) (pc1 := 27) (pc := 25) k_Te_init_25 rfl (nI_pos (by omega)) cl (by omega) (show gz g < 1000000 by omega) ?_
    | refine T_putRF (pc1 := 30) (pc := 27) k_Te_init_27 rfl f_Te_28 rfl (by first | assumption | exact ga G (by decide) rfl | exact lgA LG (by omega)) (by first | exact Or.inl ⟨_, rfl⟩ | exact Or.inr ⟨_, rfl⟩) ⟨rfl, rfl⟩ ?_
    | refine T_retV (pc := 30) k_Te_init_30 rfl ?_)
  refine kk _ _ rfl (fun j h1 h2 => ?_) ?_ ?_
  · have h1 : j ≠ gz (gpR g q 2 (some c)) := h1
    rw [va_up_ne _ _ h1, pI_rw h2, pI_rw h2]
  · have h1 : q ≠ gz (gpR g q 2 (some c)) := Nat.ne_of_lt hq
    rw [va_up_ne _ _ h1, pI_col (by decide), pI_eq]
  · have h1 : q ≠ gz (gpR g q 2 (some c)) := Nat.ne_of_lt hq
    rw [va_up_ne _ _ h1, pI_eq]
set_option maxHeartbeats 4000000 in
theorem c_Re_made {m lv : Nat} {key : Int32} (G : GeoOK g) (hk : I 66 4 = key) (hm : I 66 6 = nI m) (hv : I 66 7 = nI lv) (hlv1 : 1 ≤ lv) (hlv : lv ≤ 95) (hm95 : m ≤ 95) (hz : gz g < 900) (kk : ∀ g' J, GX g g' → gR g' 3 = gR g 3 → gz g' = gz g + 3 → gs g' ≤ gs g + 200 → isAg g' (gz g) 6 4 → isAg g' (gz g + 1) 100 m → isAg g' (gz g + 2) 100 lv → gR g' (gz g) 2 = some (gz g + 1) → gR g' (gz g) 3 = some (gz g + 2) → (∀ j, j < gz g → J j = I j) → J (gz g) 0 = key → J (gz g) 1 = nI lv → (∀ k, k < m → J (gz g + 1) k = I 69 k) → K (some (.ref (gz g))) g' J) : Cl 2 M_Re_made [.ref 66] g I K := by
  show Rl 2 M_Re_made 0 [some (.ref 66)] [] g I K
  have z := G.1
  have G1 : GeoOK (galloc g 6 4) := GX_G GX_al G (by show gz g + 1 ≤ 1000; omega)
  have n1 : ∀ j, j ≠ gz g → va_up I (gz g) (fun _ => (0 : Int32)) j = I j := fun j hj => va_up_ne _ _ hj
  have e4 : va_up I (gz g) (fun _ => (0 : Int32)) 66 4 = key := by rw [n1 _ (by omega)]; exact hk
  have e6 : va_up I (gz g) (fun _ => (0 : Int32)) 66 6 = nI m := by rw [n1 _ (by omega)]; exact hm
  have e7 : va_up I (gz g) (fun _ => (0 : Int32)) 66 7 = nI lv := by rw [n1 _ (by omega)]; exact hv
  refine T_new (pc1 := 3) (pc := 0) k_Re_made_0 rfl w_Re_58 (by omega) ?_
  have G0 := G
  clear G
  have G := G1
  have zz : gz (galloc g 6 4) = gz g + 1 := rfl
  have aq : isAg (galloc g 6 4) (gz g) 6 4 := al_A
  repeat' (first
    | (refine T_dup (pc1 := 4) (pc := 3) k_Re_made_3 rfl rfl ?_ <;> try ((first | refine T_aload_n (pc1 := 5) (pc := 4) k_Re_made_4 rfl rfl ?_ | refine T_aload_nN (pc1 := 5) (pc := 4) k_Re_made_4 rfl rfl ?_) <;> try (refine T_getV (pc1 := 8) (pc := 5) k_Re_made_5 rfl f_Re_28 rfl (by first | assumption | exact ga G (by decide) rfl | exact lgA LG (by omega)) (by first | assumption | (simp (disch := omega) only [pI_eq, pI_row, pI_col, va_up_self, va_up_ne, ne_eq, not_false_eq_true] <;> rfl) | rfl) ?_ <;> try ((first | refine T_aload_n (pc1 := 9) (pc := 8) k_Re_made_8 rfl rfl ?_ | refine T_aload_nN (pc1 := 9) (pc := 8) k_Re_made_8 rfl rfl ?_) <;> try (refine T_getV (pc1 := 12) (pc := 9) k_Re_made_9 rfl f_Re_38 rfl (by first | assumption | exact ga G (by decide) rfl | exact lgA LG (by omega)) (by first | assumption | (simp (disch := omega) only [pI_eq, pI_row, pI_col, va_up_self, va_up_ne, ne_eq, not_false_eq_true] <;> rfl) | rfl) ?_ <;> try ((first | refine T_aload_n (pc1 := 13) (pc := 12) k_Re_made_12 rfl rfl ?_ | refine T_aload_nN (pc1 := 13) (pc := 12) k_Re_made_12 rfl rfl ?_) <;> try (refine T_getR (pc1 := 16) (pc := 13) k_Re_made_13 rfl f_Re_31 rfl (by first | assumption | exact ga G (by decide) rfl | exact lgA LG (by omega)) (by first | assumption | exact gr G (by decide) rfl | exact lgR LG (by omega)) ?_ <;> try ((first | refine T_aload_n (pc1 := 17) (pc := 16) k_Re_made_16 rfl rfl ?_ | refine T_aload_nN (pc1 := 17) (pc := 16) k_Re_made_16 rfl rfl ?_) <;> try (refine T_getV (pc1 := 20) (pc := 17) k_Re_made_17 rfl f_Re_35 rfl (by first | assumption | exact ga G (by decide) rfl | exact lgA LG (by omega)) (by first | assumption | (simp (disch := omega) only [pI_eq, pI_row, pI_col, va_up_self, va_up_ne, ne_eq, not_false_eq_true] <;> rfl) | rfl) ?_ <;> try ((refine T_cS (As := [_, _]) (d1 := 1) (pc1 := 23) (pc := 20) k_Re_made_20 rfl (by decide) (Nat.le_of_ble_eq_true rfl) rfl o_Ja_copyOf l_Re_60 rfl (c_Ja_copyOf (n := 96) (ga G (by decide) rfl) (by decide) (by omega) (by rw [zz]; omega) (fun J hJ hJc => ?_)) <;> try dsimp only [psh])))))))))))
    | refine T_aload_n (pc1 := 5) (pc := 4) k_Re_made_4 rfl rfl ?_
    | refine T_aload_nN (pc1 := 5) (pc := 4) k_Re_made_4 rfl rfl ?_
    | refine T_getV (pc1 := 8) (pc := 5) k_Re_made_5 rfl f_Re_28 rfl (by first | assumption | exact ga G (by decide) rfl | exact lgA LG (by omega)) (by first | assumption | (simp (disch := omega) only [pI_eq, pI_row, pI_col, va_up_self, va_up_ne, ne_eq, not_false_eq_true] <;> rfl) | rfl) ?_
    | refine T_aload_n (pc1 := 9) (pc := 8) k_Re_made_8 rfl rfl ?_
    | refine T_aload_nN (pc1 := 9) (pc := 8) k_Re_made_8 rfl rfl ?_
    | refine T_getV (pc1 := 12) (pc := 9) k_Re_made_9 rfl f_Re_38 rfl (by first | assumption | exact ga G (by decide) rfl | exact lgA LG (by omega)) (by first | assumption | (simp (disch := omega) only [pI_eq, pI_row, pI_col, va_up_self, va_up_ne, ne_eq, not_false_eq_true] <;> rfl) | rfl) ?_
    | refine T_aload_n (pc1 := 13) (pc := 12) k_Re_made_12 rfl rfl ?_
    | refine T_aload_nN (pc1 := 13) (pc := 12) k_Re_made_12 rfl rfl ?_
    | refine T_getR (pc1 := 16) (pc := 13) k_Re_made_13 rfl f_Re_31 rfl (by first | assumption | exact ga G (by decide) rfl | exact lgA LG (by omega)) (by first | assumption | exact gr G (by decide) rfl | exact lgR LG (by omega)) ?_
    | refine T_aload_n (pc1 := 17) (pc := 16) k_Re_made_16 rfl rfl ?_
    | refine T_aload_nN (pc1 := 17) (pc := 16) k_Re_made_16 rfl rfl ?_
    | refine T_getV (pc1 := 20) (pc := 17) k_Re_made_17 rfl f_Re_35 rfl (by first | assumption | exact ga G (by decide) rfl | exact lgA LG (by omega)) (by first | assumption | (simp (disch := omega) only [pI_eq, pI_row, pI_col, va_up_self, va_up_ne, ne_eq, not_false_eq_true] <;> rfl) | rfl) ?_
    | (refine T_cS (As := [_, _]) (d1 := 1) (pc1 := 23) (pc := 20) k_Re_made_20 rfl (by decide) (Nat.le_of_ble_eq_true rfl) rfl o_Ja_copyOf l_Re_60 rfl (c_Ja_copyOf (n := 96) (ga G (by decide) rfl) (by decide) (by omega) (by rw [zz]; omega) (fun J hJ hJc => ?_)) <;> try dsimp only [psh]))
  rw [zz] at hJ hJc
  have aq2 : isAg (galloc (galloc g 6 4) 100 m) (gz g) 6 4 := GX_A GX_al aq
  have ac2 : isAg (galloc (galloc g 6 4) 100 m) (gz g + 1) 100 m := al_A (g := galloc g 6 4)
  have zz2 : gz (galloc (galloc g 6 4) 100 m) = gz g + 2 := rfl
  repeat' (first
    | ((refine T_cI (As := [_, _, _]) (d1 := 1) (pc1 := 26) (pc := 23) k_Re_made_23 rfl (by decide) (Nat.le_of_ble_eq_true rfl) rfl o_Te_init l_Re_66 rfl (c_Te_init aq2 hlv1 (by omega) (by rw [zz2]; omega) (by rw [zz2]; omega) (fun g' J2 hg hJ2 j0 j1 => ?_)) <;> try dsimp only [psh]) <;> try ((first | refine T_retA (pc := 26) k_Re_made_26 rfl (by first | exact Or.inl ⟨_, rfl⟩ | exact Or.inr ⟨_, rfl⟩) ?_ | refine T_retN (pc := 26) k_Re_made_26 rfl (by first | exact Or.inl ⟨_, rfl⟩ | exact Or.inr ⟨_, rfl⟩) ?_)))
    | refine T_retA (pc := 26) k_Re_made_26 rfl (by first | exact Or.inl ⟨_, rfl⟩ | exact Or.inr ⟨_, rfl⟩) ?_
    | refine T_retN (pc := 26) k_Re_made_26 rfl (by first | exact Or.inl ⟨_, rfl⟩ | exact Or.inr ⟨_, rfl⟩) ?_)
  rw [zz2] at hg hJ2
  have zz3 : gz g' = gz g + 3 := by rw [hg]; rfl
  have hX : GX g g' := by
    rw [hg]
    have x1 : GX g (galloc (galloc g 6 4) 100 m) := GX_tr GX_al GX_al
    have x2 : GX g (gpR (galloc (galloc g 6 4) 100 m) (gz g) 2 (some (gz (galloc g 6 4)))) := GX_pn x1 (Or.inl (Nat.le_refl _))
    have x3 : GX g (galloc (gpR (galloc (galloc g 6 4) 100 m) (gz g) 2 (some (gz (galloc g 6 4)))) 100 lv) := GX_tr x2 GX_al
    exact GX_pn x3 (Or.inl (Nat.le_refl _))
  have r3 : gR g' 3 = gR g 3 := by
    rw [hg]
    show va_up _ (gz g) _ 3 = _
    rw [va_up_ne _ _ (by omega)]
    show va_up _ (gz g + 2) _ 3 = _
    rw [va_up_ne _ _ (by omega)]
    show va_up _ (gz g) _ 3 = _
    rw [va_up_ne _ _ (by omega)]
    show va_up _ (gz g + 1) _ 3 = _
    rw [va_up_ne _ _ (by omega)]
    show va_up _ (gz g) _ 3 = _
    rw [va_up_ne _ _ (by omega)]
  refine kk g' J2 hX r3 zz3 ?_ ?_ ?_ ?_ ?_ ?_ (fun j hj => ?_) j0 j1 (fun k hk => ?_)
  · rw [hg]
    show gs g + 4 + m + lv ≤ gs g + 200
    omega
  · rw [hg]
    exact GX_A (g := gpR (galloc (galloc g 6 4) 100 m) (gz g) 2 (some (gz g + 1))) GX_al aq2
  · rw [hg]
    exact GX_A (g := gpR (galloc (galloc g 6 4) 100 m) (gz g) 2 (some (gz g + 1))) GX_al ac2
  · rw [hg]
    exact al_A (g := gpR (galloc (galloc g 6 4) 100 m) (gz g) 2 (some (gz g + 1)))
  · rw [hg, gpR_ne (by decide)]
    show va_up (gR (gpR (galloc (galloc g 6 4) 100 m) (gz g) 2 (some (gz g + 1)))) (gz g + 2) (fun _ => none) (gz g) 2 = _
    rw [va_up_ne _ _ (by omega), gpR_eq]
  · rw [hg, gpR_eq]
  · rw [hJ2 j (by omega) (by omega), hJ j (by omega), n1 j (by omega)]
  · rw [hJ2 _ (by omega) (by omega), hJc k hk, n1 _ (by omega)]
end R6
