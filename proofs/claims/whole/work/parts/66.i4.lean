/-! The constructor of the class: the three lands. -/
section PI4
def VLd (a : Nat) (J : IM) : Prop := (J a 1 = nI 0 ∧ J a 2 = nI 0 ∧ J a 3 = nI 20 ∧ J a 4 = nI 0 ∧ J a 5 = nI 0 ∧ J a 6 = nI 1 ∧ J a 8 = nI 0) ∧ (∀ k, k < 3 → J (a + 3) k = cNONE) ∧ (J (a + 4) 0 = nI 0 ∧ J (a + 4) 1 = nI 0 ∧ J (a + 4) 2 = nI 0 ∧ J (a + 4) 3 = nI 0 ∧ J (a + 4) 4 = nI 0)
theorem VLd_to {a : Nat} {J J' : IM} (h : VLd a J) (e : ∀ i, a ≤ i → i < a + 20 → J' i = J i) : VLd a J' := by
  unfold VLd at *
  rw [e a (by omega) (by omega), e (a + 3) (by omega) (by omega), e (a + 4) (by omega) (by omega)]
  exact h
end PI4
section I4
variable {g : Geo} {I : IM} {K : Option Value → Geo → IM → Prop}
theorem c_La_new {a : Nat} (h : Bu a g) (h9 : a < 800) (kk : ∀ g' J, NLd a 14 (galloc g 1 11) g' I J → K none g' J) : Cl 2 M_La_init [.ref (gz g)] (galloc g 1 11) I K := by
  rw [h.1]
  refine c_La_init (by rw [← h.1]; exact al_A) (by rw [gz_al, h.1]) (by rw [gz_al, h.1]; omega) (fun k => ?_) kk
  rw [gR_al, h.1, va_up_self]
set_option maxRecDepth 100000 in
theorem Si1 (h : Bu 1 g) (kk : ∀ g' J, Bu 61 g' → g'.1 = g.1 → gs g' = gs g + 576 → J 0 2 = nI 0 → VLd 1 J → Rl 3 M_S_init 42 [some (.ref 0), none] [] g' J K) : Rl 3 M_S_init 0 [some (.ref 0), none] [] g I K := by
  have hz := h.1
  have hzz : gz g < 1000000 := by omega
  have h0 : isAg g 0 9 11 := ⟨by omega, h.2.1 0 (by omega)⟩
  repeat' (first
    | ((first | refine T_aload_n (pc1 := 1) (pc := 0) k_S_init_0 rfl rfl ?_ | refine T_aload_nN (pc1 := 1) (pc := 0) k_S_init_0 rfl rfl ?_) <;> try (refine T_objInit (pc1 := 4) (pc := 1) k_S_init_1 rfl l_S_1 (by decide) (Nat.le_of_ble_eq_true rfl) ?_ <;> try ((first | refine T_aload_n (pc1 := 5) (pc := 4) k_S_init_4 rfl rfl ?_ | refine T_aload_nN (pc1 := 5) (pc := 4) k_S_init_4 rfl rfl ?_) <;> try (refine T_new (pc1 := 8) (pc := 5) k_S_init_5 rfl w_S_7 (by first | assumption | (simp only [gz_al, gz_p] at *; omega)) ?_ <;> try (refine T_dup (pc1 := 9) (pc := 8) k_S_init_8 rfl rfl ?_)))))
    | refine T_objInit (pc1 := 4) (pc := 1) k_S_init_1 rfl l_S_1 (by decide) (Nat.le_of_ble_eq_true rfl) ?_
    | refine T_aload_n (pc1 := 5) (pc := 4) k_S_init_4 rfl rfl ?_
    | refine T_aload_nN (pc1 := 5) (pc := 4) k_S_init_4 rfl rfl ?_
    | refine T_new (pc1 := 8) (pc := 5) k_S_init_5 rfl w_S_7 (by first | assumption | (simp only [gz_al, gz_p] at *; omega)) ?_
    | refine T_dup (pc1 := 9) (pc := 8) k_S_init_8 rfl rfl ?_)
  refine T_cI (As := []) (d1 := 2) (pc1 := 12) (pc := 9) k_S_init_9 rfl (by decide) (Nat.le_of_ble_eq_true rfl) rfl o_La_init l_S_9 rfl (c_La_new h (by omega) fun g1 J1 n1 => ?_)
  dsimp only [psh]
  have a1 : isAg g1 0 9 11 := ⟨by rw [n1.2.1]; omega, (n1.1.2.2 0 (by rw [gz_al]; omega)).1.trans (aL_A h0).2⟩
  refine T_putRF (pc1 := 15) (pc := 12) k_S_init_12 rfl f_S_10 rfl (by repeat' first | assumption | exact al_A | refine pR_A ?_ | refine aL_A ?_) (by first | exact Or.inl ⟨_, rfl⟩ | exact Or.inr ⟨_, rfl⟩) ⟨rfl, rfl⟩ ?_
  have B1 : Bu 21 (gpR g1 0 0 (some (gz g))) := by rw [hz]; exact Bu_La h n1 (by decide) (by omega) (by omega) rfl (by decide)
  have f1 : (gpR g1 0 0 (some (gz g))).1 = g.1 := n1.1.1
  have s1 : gs (gpR g1 0 0 (some (gz g))) = gs g + 192 := by rw [gs_p, n1.2.2.1, gs_al]
  have v1 : VLd 1 J1 := n1.2.2.2.2.2.2
  generalize gpR g1 0 0 (some (gz g)) = g2 at B1 f1 s1 ⊢
  have hz2 := B1.1
  have hzz2 : gz g2 < 1000000 := by omega
  have h02 : isAg g2 0 9 11 := ⟨by omega, B1.2.1 0 (by omega)⟩
  clear n1 a1 h0
  repeat' (first
    | ((first | refine T_aload_n (pc1 := 16) (pc := 15) k_S_init_15 rfl rfl ?_ | refine T_aload_nN (pc1 := 16) (pc := 15) k_S_init_15 rfl rfl ?_) <;> try (refine T_new (pc1 := 19) (pc := 16) k_S_init_16 rfl w_S_7 (by first | assumption | (simp only [gz_al, gz_p] at *; omega)) ?_ <;> try (refine T_dup (pc1 := 20) (pc := 19) k_S_init_19 rfl rfl ?_)))
    | refine T_new (pc1 := 19) (pc := 16) k_S_init_16 rfl w_S_7 (by first | assumption | (simp only [gz_al, gz_p] at *; omega)) ?_
    | refine T_dup (pc1 := 20) (pc := 19) k_S_init_19 rfl rfl ?_)
  refine T_cI (As := []) (d1 := 2) (pc1 := 23) (pc := 20) k_S_init_20 rfl (by decide) (Nat.le_of_ble_eq_true rfl) rfl o_La_init l_S_9 rfl (c_La_new B1 (by omega) fun g3 J3 n3 => ?_)
  dsimp only [psh]
  have a3 : isAg g3 0 9 11 := ⟨by rw [n3.2.1]; omega, (n3.1.2.2 0 (by rw [gz_al]; omega)).1.trans (aL_A h02).2⟩
  refine T_putRF (pc1 := 26) (pc := 23) k_S_init_23 rfl f_S_16 rfl (by repeat' first | assumption | exact al_A | refine pR_A ?_ | refine aL_A ?_) (by first | exact Or.inl ⟨_, rfl⟩ | exact Or.inr ⟨_, rfl⟩) ⟨rfl, rfl⟩ ?_
  have B3 : Bu 41 (gpR g3 0 1 (some (gz g2))) := by rw [hz2]; exact Bu_La B1 n3 (by decide) (by omega) (by omega) rfl (by decide)
  have f3 : (gpR g3 0 1 (some (gz g2))).1 = g.1 := n3.1.1.trans f1
  have s3 : gs (gpR g3 0 1 (some (gz g2))) = gs g + 384 := by rw [gs_p, n3.2.2.1, gs_al, s1]
  have v3 : VLd 1 J3 := VLd_to v1 fun i h1 h2 => by rw [n3.2.2.2.2.2.1 i (by omega), va_up_ne _ _ (by omega)]
  generalize gpR g3 0 1 (some (gz g2)) = g4 at B3 f3 s3 ⊢
  have hz4 := B3.1
  have hzz4 : gz g4 < 1000000 := by omega
  have h04 : isAg g4 0 9 11 := ⟨by omega, B3.2.1 0 (by omega)⟩
  clear n3 a3 h02 s1 f1 v1 B1 hzz2
  repeat' (first
    | ((first | refine T_aload_n (pc1 := 27) (pc := 26) k_S_init_26 rfl rfl ?_ | refine T_aload_nN (pc1 := 27) (pc := 26) k_S_init_26 rfl rfl ?_) <;> try (refine T_iconst (v := (nI 0)) (pc1 := 28) (pc := 27) k_S_init_27 rfl (by decide) ?_ <;> try (refine T_putI (pc1 := 31) (pc := 28) k_S_init_28 rfl f_S_19 rfl (by repeat' first | assumption | exact al_A | refine pR_A ?_ | refine aL_A ?_) (by first | rfl | decide | assumption) (by first | rfl | decide | assumption) ?_ <;> try ((first | refine T_aload_n (pc1 := 32) (pc := 31) k_S_init_31 rfl rfl ?_ | refine T_aload_nN (pc1 := 32) (pc := 31) k_S_init_31 rfl rfl ?_) <;> try (refine T_new (pc1 := 35) (pc := 32) k_S_init_32 rfl w_S_7 (by first | assumption | (simp only [gz_al, gz_p] at *; omega)) ?_ <;> try (refine T_dup (pc1 := 36) (pc := 35) k_S_init_35 rfl rfl ?_))))))
    | refine T_iconst (v := (nI 0)) (pc1 := 28) (pc := 27) k_S_init_27 rfl (by decide) ?_
    | refine T_putI (pc1 := 31) (pc := 28) k_S_init_28 rfl f_S_19 rfl (by repeat' first | assumption | exact al_A | refine pR_A ?_ | refine aL_A ?_) (by first | rfl | decide | assumption) (by first | rfl | decide | assumption) ?_
    | refine T_aload_n (pc1 := 32) (pc := 31) k_S_init_31 rfl rfl ?_
    | refine T_aload_nN (pc1 := 32) (pc := 31) k_S_init_31 rfl rfl ?_
    | refine T_new (pc1 := 35) (pc := 32) k_S_init_32 rfl w_S_7 (by first | assumption | (simp only [gz_al, gz_p] at *; omega)) ?_
    | refine T_dup (pc1 := 36) (pc := 35) k_S_init_35 rfl rfl ?_)
  refine T_cI (As := []) (d1 := 2) (pc1 := 39) (pc := 36) k_S_init_36 rfl (by decide) (Nat.le_of_ble_eq_true rfl) rfl o_La_init l_S_9 rfl (c_La_new B3 (by omega) fun g5 J5 n5 => ?_)
  dsimp only [psh]
  have a5 : isAg g5 0 9 11 := ⟨by rw [n5.2.1]; omega, (n5.1.2.2 0 (by rw [gz_al]; omega)).1.trans (aL_A h04).2⟩
  refine T_putRF (pc1 := 42) (pc := 39) k_S_init_39 rfl f_S_23 rfl (by repeat' first | assumption | exact al_A | refine pR_A ?_ | refine aL_A ?_) (by first | exact Or.inl ⟨_, rfl⟩ | exact Or.inr ⟨_, rfl⟩) ⟨rfl, rfl⟩ ?_
  have e5 : ∀ i, 1 ≤ i → i < 41 → J5 i = J3 i := fun i h1 h2 => by rw [n5.2.2.2.2.2.1 i (by omega), va_up_ne _ _ (by omega), pI_rw (by omega)]
  refine kk _ _ (by rw [hz4]; exact Bu_La B3 n5 (by decide) (by omega) (by omega) rfl (by decide)) (n5.1.1.trans f3) (by rw [gs_p, n5.2.2.1, gs_al, s3]) ?_ (VLd_to v3 fun i h1 h2 => e5 i h1 (by omega))
  rw [n5.2.2.2.2.2.1 0 (by omega), va_up_ne _ _ (by omega), pI_eq]
end I4
