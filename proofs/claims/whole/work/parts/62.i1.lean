/-! The constructors: parts. -/
section PI1
variable {g g0 : Geo} {t n i j k o : Nat} {v : Option Nat}
theorem gz_al : gz (galloc g t n) = gz g + 1 := rfl
theorem gz_p : gz (gpR g i k v) = gz g := rfl
theorem gk_al : gk (galloc g t n) = va_up (gk g) (gz g) (t, n) := rfl
theorem gk_p : gk (gpR g i k v) = gk g := rfl
theorem gR_al : gR (galloc g t n) = va_up (gR g) (gz g) (fun _ => none) := rfl
theorem gR_p : gR (gpR g i k v) = va_up (gR g) i (va_up (gR g i) k v) := rfl
theorem gs_al : gs (galloc g t n) = gs g + n := rfl
theorem gs_p : gs (gpR g i k v) = gs g := rfl
theorem g1_al : (galloc g t n).1 = g.1 := rfl
theorem g1_p : (gpR g i k v).1 = g.1 := rfl
theorem pR_A {t n i : Nat} (h : isAg g i t n) : isAg (gpR g j k v) i t n := h
theorem aL_A {t n i t' n' : Nat} (h : isAg g i t n) : isAg (galloc g t' n') i t n := GX_A GX_al h
/-- all but the references of cell o is as it was -/
def NX (o : Nat) (g0 g : Geo) : Prop := g.1 = g0.1 ∧ gz g0 ≤ gz g ∧ ∀ i, i < gz g0 → gk g i = gk g0 i ∧ (i ≠ o → gR g i = gR g0 i)
theorem NX_rf : NX o g g := ⟨rfl, Nat.le_refl _, fun _ _ => ⟨rfl, fun _ => rfl⟩⟩
theorem NX_al (h : NX o g0 g) : NX o g0 (galloc g t n) := ⟨h.1, Nat.le_succ_of_le h.2.1, fun i hi => ⟨by rw [gk_al, va_up_ne _ _ (by have := h.2.1; omega)]; exact (h.2.2 i hi).1, fun q => by rw [gR_al, va_up_ne _ _ (by have := h.2.1; omega)]; exact (h.2.2 i hi).2 q⟩⟩
theorem NX_p (h : NX o g0 g) (hi : i = o ∨ gz g0 ≤ i) : NX o g0 (gpR g i k v) := ⟨h.1, h.2.1, fun j hj => ⟨(h.2.2 j hj).1, fun q => by rw [gR_p, va_up_ne _ _ (by omega)]; exact (h.2.2 j hj).2 q⟩⟩
theorem NX_tr {g1 : Geo} (h1 : NX o g0 g1) (h2 : NX (gz g0) g1 g) (hz : gz g0 ≤ gz g1) (hlt : gz g0 < gz g1) : NX o g0 g := ⟨h2.1.trans h1.1, Nat.le_trans h1.2.1 h2.2.1, fun i hi => ⟨(h2.2.2 i (by omega)).1.trans (h1.2.2 i hi).1, fun q => ((h2.2.2 i (by omega)).2 (by omega)).trans ((h1.2.2 i hi).2 q)⟩⟩
end PI1
section I1
variable {g : Geo} {I : IM} {K : Option Value → Geo → IM → Prop}
theorem c_B_init {i : Nat} (ha : isAg g i 0 6) (kk : K none g (pI (pI (pI (pI (pI (pI I i 0 (nI 0)) i 1 (nI 0)) i 2 (nI 0)) i 3 (nI 0)) i 4 (nI 0)) i 5 cNONE)) : Cl 1 M_B_init [.ref i] g I K := by
  show Rl 1 M_B_init 0 [some (.ref i)] [] g I K
  repeat' (first
    | ((first | refine T_aload_n (pc1 := 1) (pc := 0) k_B_init_0 rfl rfl ?_ | refine T_aload_nN (pc1 := 1) (pc := 0) k_B_init_0 rfl rfl ?_) <;> try (refine T_objInit (pc1 := 4) (pc := 1) k_B_init_1 rfl l_B_3 (by decide) (Nat.le_of_ble_eq_true rfl) ?_ <;> try ((first | refine T_aload_n (pc1 := 5) (pc := 4) k_B_init_4 rfl rfl ?_ | refine T_aload_nN (pc1 := 5) (pc := 4) k_B_init_4 rfl rfl ?_) <;> try (refine T_iconst (v := (nI 0)) (pc1 := 6) (pc := 5) k_B_init_5 rfl (by decide) ?_ <;> try (refine T_putI (pc1 := 9) (pc := 6) k_B_init_6 rfl f_B_9 rfl (by repeat' first | assumption | exact al_A | refine pR_A ?_ | refine aL_A ?_) (by first | rfl | decide | assumption) (by first | rfl | decide | assumption) ?_ <;> try ((first | refine T_aload_n (pc1 := 10) (pc := 9) k_B_init_9 rfl rfl ?_ | refine T_aload_nN (pc1 := 10) (pc := 9) k_B_init_9 rfl rfl ?_) <;> try (refine T_iconst (v := (nI 0)) (pc1 := 11) (pc := 10) k_B_init_10 rfl (by decide) ?_ <;> try (refine T_putI (pc1 := 14) (pc := 11) k_B_init_11 rfl f_B_15 rfl (by repeat' first | assumption | exact al_A | refine pR_A ?_ | refine aL_A ?_) (by first | rfl | decide | assumption) (by first | rfl | decide | assumption) ?_ <;> try ((first | refine T_aload_n (pc1 := 15) (pc := 14) k_B_init_14 rfl rfl ?_ | refine T_aload_nN (pc1 := 15) (pc := 14) k_B_init_14 rfl rfl ?_) <;> try (refine T_iconst (v := (nI 0)) (pc1 := 16) (pc := 15) k_B_init_15 rfl (by decide) ?_ <;> try (refine T_putI (pc1 := 19) (pc := 16) k_B_init_16 rfl f_B_18 rfl (by repeat' first | assumption | exact al_A | refine pR_A ?_ | refine aL_A ?_) (by first | rfl | decide | assumption) (by first | rfl | decide | assumption) ?_ <;> try ((first | refine T_aload_n (pc1 := 20) (pc := 19) k_B_init_19 rfl rfl ?_ | refine T_aload_nN (pc1 := 20) (pc := 19) k_B_init_19 rfl rfl ?_) <;> try (refine T_iconst (v := (nI 0)) (pc1 := 21) (pc := 20) k_B_init_20 rfl (by decide) ?_ <;> try (refine T_putI (pc1 := 24) (pc := 21) k_B_init_21 rfl f_B_21 rfl (by repeat' first | assumption | exact al_A | refine pR_A ?_ | refine aL_A ?_) (by first | rfl | decide | assumption) (by first | rfl | decide | assumption) ?_))))))))))))))
    | ((first | refine T_aload_n (pc1 := 25) (pc := 24) k_B_init_24 rfl rfl ?_ | refine T_aload_nN (pc1 := 25) (pc := 24) k_B_init_24 rfl rfl ?_) <;> try (refine T_iconst (v := (nI 0)) (pc1 := 26) (pc := 25) k_B_init_25 rfl (by decide) ?_ <;> try (refine T_putI (pc1 := 29) (pc := 26) k_B_init_26 rfl f_B_24 rfl (by repeat' first | assumption | exact al_A | refine pR_A ?_ | refine aL_A ?_) (by first | rfl | decide | assumption) (by first | rfl | decide | assumption) ?_ <;> try ((first | refine T_aload_n (pc1 := 30) (pc := 29) k_B_init_29 rfl rfl ?_ | refine T_aload_nN (pc1 := 30) (pc := 29) k_B_init_29 rfl rfl ?_) <;> try (refine T_ldc (v := (-1000000005)) (pc1 := 32) (pc := 30) k_B_init_30 rfl c_B_27 ?_ <;> try (refine T_putI (pc1 := 35) (pc := 32) k_B_init_32 rfl f_B_28 rfl (by repeat' first | assumption | exact al_A | refine pR_A ?_ | refine aL_A ?_) (by first | rfl | decide | assumption) (by first | rfl | decide | assumption) ?_ <;> try (refine T_retV (pc := 35) k_B_init_35 rfl ?_)))))))
    | refine T_objInit (pc1 := 4) (pc := 1) k_B_init_1 rfl l_B_3 (by decide) (Nat.le_of_ble_eq_true rfl) ?_
    | refine T_aload_n (pc1 := 5) (pc := 4) k_B_init_4 rfl rfl ?_
    | refine T_aload_nN (pc1 := 5) (pc := 4) k_B_init_4 rfl rfl ?_
    | refine T_iconst (v := (nI 0)) (pc1 := 6) (pc := 5) k_B_init_5 rfl (by decide) ?_
    | refine T_putI (pc1 := 9) (pc := 6) k_B_init_6 rfl f_B_9 rfl (by repeat' first | assumption | exact al_A | refine pR_A ?_ | refine aL_A ?_) (by first | rfl | decide | assumption) (by first | rfl | decide | assumption) ?_
    | refine T_aload_n (pc1 := 10) (pc := 9) k_B_init_9 rfl rfl ?_
    | refine T_aload_nN (pc1 := 10) (pc := 9) k_B_init_9 rfl rfl ?_
    | refine T_iconst (v := (nI 0)) (pc1 := 11) (pc := 10) k_B_init_10 rfl (by decide) ?_
    | refine T_putI (pc1 := 14) (pc := 11) k_B_init_11 rfl f_B_15 rfl (by repeat' first | assumption | exact al_A | refine pR_A ?_ | refine aL_A ?_) (by first | rfl | decide | assumption) (by first | rfl | decide | assumption) ?_
    | refine T_aload_n (pc1 := 15) (pc := 14) k_B_init_14 rfl rfl ?_
    | refine T_aload_nN (pc1 := 15) (pc := 14) k_B_init_14 rfl rfl ?_
    | refine T_iconst (v := (nI 0)) (pc1 := 16) (pc := 15) k_B_init_15 rfl (by decide) ?_
    | refine T_putI (pc1 := 19) (pc := 16) k_B_init_16 rfl f_B_18 rfl (by repeat' first | assumption | exact al_A | refine pR_A ?_ | refine aL_A ?_) (by first | rfl | decide | assumption) (by first | rfl | decide | assumption) ?_
    | refine T_aload_n (pc1 := 20) (pc := 19) k_B_init_19 rfl rfl ?_
    | refine T_aload_nN (pc1 := 20) (pc := 19) k_B_init_19 rfl rfl ?_
    | refine T_iconst (v := (nI 0)) (pc1 := 21) (pc := 20) k_B_init_20 rfl (by decide) ?_
    | refine T_putI (pc1 := 24) (pc := 21) k_B_init_21 rfl f_B_21 rfl (by repeat' first | assumption | exact al_A | refine pR_A ?_ | refine aL_A ?_) (by first | rfl | decide | assumption) (by first | rfl | decide | assumption) ?_
    | refine T_iconst (v := (nI 0)) (pc1 := 26) (pc := 25) k_B_init_25 rfl (by decide) ?_
    | refine T_putI (pc1 := 29) (pc := 26) k_B_init_26 rfl f_B_24 rfl (by repeat' first | assumption | exact al_A | refine pR_A ?_ | refine aL_A ?_) (by first | rfl | decide | assumption) (by first | rfl | decide | assumption) ?_
    | refine T_aload_n (pc1 := 30) (pc := 29) k_B_init_29 rfl rfl ?_
    | refine T_aload_nN (pc1 := 30) (pc := 29) k_B_init_29 rfl rfl ?_
    | refine T_ldc (v := (-1000000005)) (pc1 := 32) (pc := 30) k_B_init_30 rfl c_B_27 ?_
    | refine T_putI (pc1 := 35) (pc := 32) k_B_init_32 rfl f_B_28 rfl (by repeat' first | assumption | exact al_A | refine pR_A ?_ | refine aL_A ?_) (by first | rfl | decide | assumption) (by first | rfl | decide | assumption) ?_
    | refine T_retV (pc := 35) k_B_init_35 rfl ?_)
  exact kk
theorem c_Ta_init {i : Nat} (ha : isAg g i 5 2) (hz : gz g < 1000000) (kk : K none (gpR (galloc g 100 96) i 0 (some (gz g))) (pI (va_up I (gz g) (fun _ => 0)) i 1 (nI 0))) : Cl 1 M_Ta_init [.ref i] g I K := by
  show Rl 1 M_Ta_init 0 [some (.ref i)] [] g I K
  repeat' (first
    | ((first | refine T_aload_n (pc1 := 1) (pc := 0) k_Ta_init_0 rfl rfl ?_ | refine T_aload_nN (pc1 := 1) (pc := 0) k_Ta_init_0 rfl rfl ?_) <;> try (refine T_objInit (pc1 := 4) (pc := 1) k_Ta_init_1 rfl l_Ta_3 (by decide) (Nat.le_of_ble_eq_true rfl) ?_ <;> try ((first | refine T_aload_n (pc1 := 5) (pc := 4) k_Ta_init_4 rfl rfl ?_ | refine T_aload_nN (pc1 := 5) (pc := 4) k_Ta_init_4 rfl rfl ?_) <;> try (refine T_bipush (v := (nI 96)) (pc1 := 7) (pc := 5) k_Ta_init_5 rfl (by decide) ?_ <;> try (refine T_newa (n := _) (pc1 := 9) (pc := 7) k_Ta_init_7 rfl (by decide) rfl (by decide) (by first | assumption | (simp only [gz_al, gz_p] at *; omega)) ?_ <;> try (refine T_putRF (pc1 := 12) (pc := 9) k_Ta_init_9 rfl f_Ta_9 rfl (by repeat' first | assumption | exact al_A | refine pR_A ?_ | refine aL_A ?_) (by first | exact Or.inl ⟨_, rfl⟩ | exact Or.inr ⟨_, rfl⟩) ⟨rfl, rfl⟩ ?_ <;> try ((first | refine T_aload_n (pc1 := 13) (pc := 12) k_Ta_init_12 rfl rfl ?_ | refine T_aload_nN (pc1 := 13) (pc := 12) k_Ta_init_12 rfl rfl ?_) <;> try (refine T_iconst (v := (nI 0)) (pc1 := 14) (pc := 13) k_Ta_init_13 rfl (by decide) ?_ <;> try (refine T_putI (pc1 := 17) (pc := 14) k_Ta_init_14 rfl f_Ta_15 rfl (by repeat' first | assumption | exact al_A | refine pR_A ?_ | refine aL_A ?_) (by first | rfl | decide | assumption) (by first | rfl | decide | assumption) ?_ <;> try (refine T_retV (pc := 17) k_Ta_init_17 rfl ?_))))))))))
    | refine T_objInit (pc1 := 4) (pc := 1) k_Ta_init_1 rfl l_Ta_3 (by decide) (Nat.le_of_ble_eq_true rfl) ?_
    | refine T_aload_n (pc1 := 5) (pc := 4) k_Ta_init_4 rfl rfl ?_
    | refine T_aload_nN (pc1 := 5) (pc := 4) k_Ta_init_4 rfl rfl ?_
    | refine T_bipush (v := (nI 96)) (pc1 := 7) (pc := 5) k_Ta_init_5 rfl (by decide) ?_
    | refine T_newa (n := _) (pc1 := 9) (pc := 7) k_Ta_init_7 rfl (by decide) rfl (by decide) (by first | assumption | (simp only [gz_al, gz_p] at *; omega)) ?_
    | refine T_putRF (pc1 := 12) (pc := 9) k_Ta_init_9 rfl f_Ta_9 rfl (by repeat' first | assumption | exact al_A | refine pR_A ?_ | refine aL_A ?_) (by first | exact Or.inl ⟨_, rfl⟩ | exact Or.inr ⟨_, rfl⟩) ⟨rfl, rfl⟩ ?_
    | refine T_aload_n (pc1 := 13) (pc := 12) k_Ta_init_12 rfl rfl ?_
    | refine T_aload_nN (pc1 := 13) (pc := 12) k_Ta_init_12 rfl rfl ?_
    | refine T_iconst (v := (nI 0)) (pc1 := 14) (pc := 13) k_Ta_init_13 rfl (by decide) ?_
    | refine T_putI (pc1 := 17) (pc := 14) k_Ta_init_14 rfl f_Ta_15 rfl (by repeat' first | assumption | exact al_A | refine pR_A ?_ | refine aL_A ?_) (by first | rfl | decide | assumption) (by first | rfl | decide | assumption) ?_
    | refine T_retV (pc := 17) k_Ta_init_17 rfl ?_)
  exact kk
theorem c_Sh_init {i : Nat} (ha : isAg g i 3 3) (hz : gz g < 1000000) (kk : K none (gpR (galloc g 100 24) i 2 (some (gz g))) (va_up (pI (pI I i 0 (-1)) i 1 (nI 0)) (gz g) (fun _ => 0))) : Cl 1 M_Sh_init [.ref i] g I K := by
  show Rl 1 M_Sh_init 0 [some (.ref i)] [] g I K
  repeat' (first
    | ((first | refine T_aload_n (pc1 := 1) (pc := 0) k_Sh_init_0 rfl rfl ?_ | refine T_aload_nN (pc1 := 1) (pc := 0) k_Sh_init_0 rfl rfl ?_) <;> try (refine T_objInit (pc1 := 4) (pc := 1) k_Sh_init_1 rfl l_Sh_3 (by decide) (Nat.le_of_ble_eq_true rfl) ?_ <;> try ((first | refine T_aload_n (pc1 := 5) (pc := 4) k_Sh_init_4 rfl rfl ?_ | refine T_aload_nN (pc1 := 5) (pc := 4) k_Sh_init_4 rfl rfl ?_) <;> try (refine T_iconst (v := (-1)) (pc1 := 6) (pc := 5) k_Sh_init_5 rfl (by decide) ?_ <;> try (refine T_putI (pc1 := 9) (pc := 6) k_Sh_init_6 rfl f_Sh_9 rfl (by repeat' first | assumption | exact al_A | refine pR_A ?_ | refine aL_A ?_) (by first | rfl | decide | assumption) (by first | rfl | decide | assumption) ?_ <;> try ((first | refine T_aload_n (pc1 := 10) (pc := 9) k_Sh_init_9 rfl rfl ?_ | refine T_aload_nN (pc1 := 10) (pc := 9) k_Sh_init_9 rfl rfl ?_) <;> try (refine T_iconst (v := (nI 0)) (pc1 := 11) (pc := 10) k_Sh_init_10 rfl (by decide) ?_ <;> try (refine T_putI (pc1 := 14) (pc := 11) k_Sh_init_11 rfl f_Sh_15 rfl (by repeat' first | assumption | exact al_A | refine pR_A ?_ | refine aL_A ?_) (by first | rfl | decide | assumption) (by first | rfl | decide | assumption) ?_ <;> try ((first | refine T_aload_n (pc1 := 15) (pc := 14) k_Sh_init_14 rfl rfl ?_ | refine T_aload_nN (pc1 := 15) (pc := 14) k_Sh_init_14 rfl rfl ?_) <;> try (refine T_bipush (v := (nI 24)) (pc1 := 17) (pc := 15) k_Sh_init_15 rfl (by decide) ?_ <;> try (refine T_newa (n := _) (pc1 := 19) (pc := 17) k_Sh_init_17 rfl (by decide) rfl (by decide) (by first | assumption | (simp only [gz_al, gz_p] at *; omega)) ?_ <;> try (refine T_putRF (pc1 := 22) (pc := 19) k_Sh_init_19 rfl f_Sh_18 rfl (by repeat' first | assumption | exact al_A | refine pR_A ?_ | refine aL_A ?_) (by first | exact Or.inl ⟨_, rfl⟩ | exact Or.inr ⟨_, rfl⟩) ⟨rfl, rfl⟩ ?_ <;> try (refine T_retV (pc := 22) k_Sh_init_22 rfl ?_)))))))))))))
    | refine T_objInit (pc1 := 4) (pc := 1) k_Sh_init_1 rfl l_Sh_3 (by decide) (Nat.le_of_ble_eq_true rfl) ?_
    | refine T_aload_n (pc1 := 5) (pc := 4) k_Sh_init_4 rfl rfl ?_
    | refine T_aload_nN (pc1 := 5) (pc := 4) k_Sh_init_4 rfl rfl ?_
    | refine T_iconst (v := (-1)) (pc1 := 6) (pc := 5) k_Sh_init_5 rfl (by decide) ?_
    | refine T_putI (pc1 := 9) (pc := 6) k_Sh_init_6 rfl f_Sh_9 rfl (by repeat' first | assumption | exact al_A | refine pR_A ?_ | refine aL_A ?_) (by first | rfl | decide | assumption) (by first | rfl | decide | assumption) ?_
    | refine T_aload_n (pc1 := 10) (pc := 9) k_Sh_init_9 rfl rfl ?_
    | refine T_aload_nN (pc1 := 10) (pc := 9) k_Sh_init_9 rfl rfl ?_
    | refine T_iconst (v := (nI 0)) (pc1 := 11) (pc := 10) k_Sh_init_10 rfl (by decide) ?_
    | refine T_putI (pc1 := 14) (pc := 11) k_Sh_init_11 rfl f_Sh_15 rfl (by repeat' first | assumption | exact al_A | refine pR_A ?_ | refine aL_A ?_) (by first | rfl | decide | assumption) (by first | rfl | decide | assumption) ?_
    | refine T_aload_n (pc1 := 15) (pc := 14) k_Sh_init_14 rfl rfl ?_
    | refine T_aload_nN (pc1 := 15) (pc := 14) k_Sh_init_14 rfl rfl ?_
    | refine T_bipush (v := (nI 24)) (pc1 := 17) (pc := 15) k_Sh_init_15 rfl (by decide) ?_
    | refine T_newa (n := _) (pc1 := 19) (pc := 17) k_Sh_init_17 rfl (by decide) rfl (by decide) (by first | assumption | (simp only [gz_al, gz_p] at *; omega)) ?_
    | refine T_putRF (pc1 := 22) (pc := 19) k_Sh_init_19 rfl f_Sh_18 rfl (by repeat' first | assumption | exact al_A | refine pR_A ?_ | refine aL_A ?_) (by first | exact Or.inl ⟨_, rfl⟩ | exact Or.inr ⟨_, rfl⟩) ⟨rfl, rfl⟩ ?_
    | refine T_retV (pc := 22) k_Sh_init_22 rfl ?_)
  exact kk
theorem c_Wa_init {i : Nat} (ha : isAg g i 7 6) (hz : gz g < 1000000) (kk : K none (gpR (galloc g 100 60) i 5 (some (gz g))) (va_up (pI (pI (pI (pI (pI I i 0 (nI 0)) i 1 (nI 0)) i 2 (nI 0)) i 3 (nI 0)) i 4 (nI 0)) (gz g) (fun _ => 0))) : Cl 1 M_Wa_init [.ref i] g I K := by
  show Rl 1 M_Wa_init 0 [some (.ref i)] [] g I K
  repeat' (first
    | ((first | refine T_aload_n (pc1 := 1) (pc := 0) k_Wa_init_0 rfl rfl ?_ | refine T_aload_nN (pc1 := 1) (pc := 0) k_Wa_init_0 rfl rfl ?_) <;> try (refine T_objInit (pc1 := 4) (pc := 1) k_Wa_init_1 rfl l_Wa_3 (by decide) (Nat.le_of_ble_eq_true rfl) ?_ <;> try ((first | refine T_aload_n (pc1 := 5) (pc := 4) k_Wa_init_4 rfl rfl ?_ | refine T_aload_nN (pc1 := 5) (pc := 4) k_Wa_init_4 rfl rfl ?_) <;> try (refine T_iconst (v := (nI 0)) (pc1 := 6) (pc := 5) k_Wa_init_5 rfl (by decide) ?_ <;> try (refine T_putI (pc1 := 9) (pc := 6) k_Wa_init_6 rfl f_Wa_9 rfl (by repeat' first | assumption | exact al_A | refine pR_A ?_ | refine aL_A ?_) (by first | rfl | decide | assumption) (by first | rfl | decide | assumption) ?_ <;> try ((first | refine T_aload_n (pc1 := 10) (pc := 9) k_Wa_init_9 rfl rfl ?_ | refine T_aload_nN (pc1 := 10) (pc := 9) k_Wa_init_9 rfl rfl ?_) <;> try (refine T_iconst (v := (nI 0)) (pc1 := 11) (pc := 10) k_Wa_init_10 rfl (by decide) ?_ <;> try (refine T_putI (pc1 := 14) (pc := 11) k_Wa_init_11 rfl f_Wa_15 rfl (by repeat' first | assumption | exact al_A | refine pR_A ?_ | refine aL_A ?_) (by first | rfl | decide | assumption) (by first | rfl | decide | assumption) ?_ <;> try ((first | refine T_aload_n (pc1 := 15) (pc := 14) k_Wa_init_14 rfl rfl ?_ | refine T_aload_nN (pc1 := 15) (pc := 14) k_Wa_init_14 rfl rfl ?_) <;> try (refine T_iconst (v := (nI 0)) (pc1 := 16) (pc := 15) k_Wa_init_15 rfl (by decide) ?_ <;> try (refine T_putI (pc1 := 19) (pc := 16) k_Wa_init_16 rfl f_Wa_19 rfl (by repeat' first | assumption | exact al_A | refine pR_A ?_ | refine aL_A ?_) (by first | rfl | decide | assumption) (by first | rfl | decide | assumption) ?_ <;> try ((first | refine T_aload_n (pc1 := 20) (pc := 19) k_Wa_init_19 rfl rfl ?_ | refine T_aload_nN (pc1 := 20) (pc := 19) k_Wa_init_19 rfl rfl ?_) <;> try (refine T_iconst (v := (nI 0)) (pc1 := 21) (pc := 20) k_Wa_init_20 rfl (by decide) ?_ <;> try (refine T_putI (pc1 := 24) (pc := 21) k_Wa_init_21 rfl f_Wa_22 rfl (by repeat' first | assumption | exact al_A | refine pR_A ?_ | refine aL_A ?_) (by first | rfl | decide | assumption) (by first | rfl | decide | assumption) ?_))))))))))))))
    | ((first | refine T_aload_n (pc1 := 25) (pc := 24) k_Wa_init_24 rfl rfl ?_ | refine T_aload_nN (pc1 := 25) (pc := 24) k_Wa_init_24 rfl rfl ?_) <;> try (refine T_iconst (v := (nI 0)) (pc1 := 26) (pc := 25) k_Wa_init_25 rfl (by decide) ?_ <;> try (refine T_putI (pc1 := 29) (pc := 26) k_Wa_init_26 rfl f_Wa_25 rfl (by repeat' first | assumption | exact al_A | refine pR_A ?_ | refine aL_A ?_) (by first | rfl | decide | assumption) (by first | rfl | decide | assumption) ?_ <;> try ((first | refine T_aload_n (pc1 := 30) (pc := 29) k_Wa_init_29 rfl rfl ?_ | refine T_aload_nN (pc1 := 30) (pc := 29) k_Wa_init_29 rfl rfl ?_) <;> try (refine T_bipush (v := (nI 60)) (pc1 := 32) (pc := 30) k_Wa_init_30 rfl (by decide) ?_ <;> try (refine T_newa (n := _) (pc1 := 34) (pc := 32) k_Wa_init_32 rfl (by decide) rfl (by decide) (by first | assumption | (simp only [gz_al, gz_p] at *; omega)) ?_ <;> try (refine T_putRF (pc1 := 37) (pc := 34) k_Wa_init_34 rfl f_Wa_28 rfl (by repeat' first | assumption | exact al_A | refine pR_A ?_ | refine aL_A ?_) (by first | exact Or.inl ⟨_, rfl⟩ | exact Or.inr ⟨_, rfl⟩) ⟨rfl, rfl⟩ ?_ <;> try (refine T_retV (pc := 37) k_Wa_init_37 rfl ?_))))))))
    | refine T_objInit (pc1 := 4) (pc := 1) k_Wa_init_1 rfl l_Wa_3 (by decide) (Nat.le_of_ble_eq_true rfl) ?_
    | refine T_aload_n (pc1 := 5) (pc := 4) k_Wa_init_4 rfl rfl ?_
    | refine T_aload_nN (pc1 := 5) (pc := 4) k_Wa_init_4 rfl rfl ?_
    | refine T_iconst (v := (nI 0)) (pc1 := 6) (pc := 5) k_Wa_init_5 rfl (by decide) ?_
    | refine T_putI (pc1 := 9) (pc := 6) k_Wa_init_6 rfl f_Wa_9 rfl (by repeat' first | assumption | exact al_A | refine pR_A ?_ | refine aL_A ?_) (by first | rfl | decide | assumption) (by first | rfl | decide | assumption) ?_
    | refine T_aload_n (pc1 := 10) (pc := 9) k_Wa_init_9 rfl rfl ?_
    | refine T_aload_nN (pc1 := 10) (pc := 9) k_Wa_init_9 rfl rfl ?_
    | refine T_iconst (v := (nI 0)) (pc1 := 11) (pc := 10) k_Wa_init_10 rfl (by decide) ?_
    | refine T_putI (pc1 := 14) (pc := 11) k_Wa_init_11 rfl f_Wa_15 rfl (by repeat' first | assumption | exact al_A | refine pR_A ?_ | refine aL_A ?_) (by first | rfl | decide | assumption) (by first | rfl | decide | assumption) ?_
    | refine T_aload_n (pc1 := 15) (pc := 14) k_Wa_init_14 rfl rfl ?_
    | refine T_aload_nN (pc1 := 15) (pc := 14) k_Wa_init_14 rfl rfl ?_
    | refine T_iconst (v := (nI 0)) (pc1 := 16) (pc := 15) k_Wa_init_15 rfl (by decide) ?_
    | refine T_putI (pc1 := 19) (pc := 16) k_Wa_init_16 rfl f_Wa_19 rfl (by repeat' first | assumption | exact al_A | refine pR_A ?_ | refine aL_A ?_) (by first | rfl | decide | assumption) (by first | rfl | decide | assumption) ?_
    | refine T_aload_n (pc1 := 20) (pc := 19) k_Wa_init_19 rfl rfl ?_
    | refine T_aload_nN (pc1 := 20) (pc := 19) k_Wa_init_19 rfl rfl ?_
    | refine T_iconst (v := (nI 0)) (pc1 := 21) (pc := 20) k_Wa_init_20 rfl (by decide) ?_
    | refine T_putI (pc1 := 24) (pc := 21) k_Wa_init_21 rfl f_Wa_22 rfl (by repeat' first | assumption | exact al_A | refine pR_A ?_ | refine aL_A ?_) (by first | rfl | decide | assumption) (by first | rfl | decide | assumption) ?_
    | refine T_iconst (v := (nI 0)) (pc1 := 26) (pc := 25) k_Wa_init_25 rfl (by decide) ?_
    | refine T_putI (pc1 := 29) (pc := 26) k_Wa_init_26 rfl f_Wa_25 rfl (by repeat' first | assumption | exact al_A | refine pR_A ?_ | refine aL_A ?_) (by first | rfl | decide | assumption) (by first | rfl | decide | assumption) ?_
    | refine T_aload_n (pc1 := 30) (pc := 29) k_Wa_init_29 rfl rfl ?_
    | refine T_aload_nN (pc1 := 30) (pc := 29) k_Wa_init_29 rfl rfl ?_
    | refine T_bipush (v := (nI 60)) (pc1 := 32) (pc := 30) k_Wa_init_30 rfl (by decide) ?_
    | refine T_newa (n := _) (pc1 := 34) (pc := 32) k_Wa_init_32 rfl (by decide) rfl (by decide) (by first | assumption | (simp only [gz_al, gz_p] at *; omega)) ?_
    | refine T_putRF (pc1 := 37) (pc := 34) k_Wa_init_34 rfl f_Wa_28 rfl (by repeat' first | assumption | exact al_A | refine pR_A ?_ | refine aL_A ?_) (by first | exact Or.inl ⟨_, rfl⟩ | exact Or.inr ⟨_, rfl⟩) ⟨rfl, rfl⟩ ?_
    | refine T_retV (pc := 37) k_Wa_init_37 rfl ?_)
  exact kk
theorem c_Wr_init {i : Nat} (ha : isAg g i 8 2) (hz : gz g < 999999) (kk : K none (gpR (galloc (gpR (galloc g 100 14) i 0 (some (gz g))) 100 8) i 1 (some (gz g + 1))) (va_up (va_up I (gz g) (fun _ => 0)) (gz g + 1) (fun _ => 0))) : Cl 1 M_Wr_init [.ref i] g I K := by
  show Rl 1 M_Wr_init 0 [some (.ref i)] [] g I K
  have hz2 : gz g < 1000000 := by omega
  repeat' (first
    | ((first | refine T_aload_n (pc1 := 1) (pc := 0) k_Wr_init_0 rfl rfl ?_ | refine T_aload_nN (pc1 := 1) (pc := 0) k_Wr_init_0 rfl rfl ?_) <;> try (refine T_objInit (pc1 := 4) (pc := 1) k_Wr_init_1 rfl l_Wr_3 (by decide) (Nat.le_of_ble_eq_true rfl) ?_ <;> try ((first | refine T_aload_n (pc1 := 5) (pc := 4) k_Wr_init_4 rfl rfl ?_ | refine T_aload_nN (pc1 := 5) (pc := 4) k_Wr_init_4 rfl rfl ?_) <;> try (refine T_bipush (v := (nI 14)) (pc1 := 7) (pc := 5) k_Wr_init_5 rfl (by decide) ?_ <;> try (refine T_newa (n := _) (pc1 := 9) (pc := 7) k_Wr_init_7 rfl (by decide) rfl (by decide) (by first | assumption | (simp only [gz_al, gz_p] at *; omega)) ?_ <;> try (refine T_putRF (pc1 := 12) (pc := 9) k_Wr_init_9 rfl f_Wr_9 rfl (by repeat' first | assumption | exact al_A | refine pR_A ?_ | refine aL_A ?_) (by first | exact Or.inl ⟨_, rfl⟩ | exact Or.inr ⟨_, rfl⟩) ⟨rfl, rfl⟩ ?_ <;> try ((first | refine T_aload_n (pc1 := 13) (pc := 12) k_Wr_init_12 rfl rfl ?_ | refine T_aload_nN (pc1 := 13) (pc := 12) k_Wr_init_12 rfl rfl ?_) <;> try (refine T_bipush (v := (nI 8)) (pc1 := 15) (pc := 13) k_Wr_init_13 rfl (by decide) ?_ <;> try (refine T_newa (n := _) (pc1 := 17) (pc := 15) k_Wr_init_15 rfl (by decide) rfl (by decide) (by first | assumption | (simp only [gz_al, gz_p] at *; omega)) ?_ <;> try (refine T_putRF (pc1 := 20) (pc := 17) k_Wr_init_17 rfl f_Wr_15 rfl (by repeat' first | assumption | exact al_A | refine pR_A ?_ | refine aL_A ?_) (by first | exact Or.inl ⟨_, rfl⟩ | exact Or.inr ⟨_, rfl⟩) ⟨rfl, rfl⟩ ?_ <;> try (refine T_retV (pc := 20) k_Wr_init_20 rfl ?_)))))))))))
    | refine T_objInit (pc1 := 4) (pc := 1) k_Wr_init_1 rfl l_Wr_3 (by decide) (Nat.le_of_ble_eq_true rfl) ?_
    | refine T_aload_n (pc1 := 5) (pc := 4) k_Wr_init_4 rfl rfl ?_
    | refine T_aload_nN (pc1 := 5) (pc := 4) k_Wr_init_4 rfl rfl ?_
    | refine T_bipush (v := (nI 14)) (pc1 := 7) (pc := 5) k_Wr_init_5 rfl (by decide) ?_
    | refine T_newa (n := _) (pc1 := 9) (pc := 7) k_Wr_init_7 rfl (by decide) rfl (by decide) (by first | assumption | (simp only [gz_al, gz_p] at *; omega)) ?_
    | refine T_putRF (pc1 := 12) (pc := 9) k_Wr_init_9 rfl f_Wr_9 rfl (by repeat' first | assumption | exact al_A | refine pR_A ?_ | refine aL_A ?_) (by first | exact Or.inl ⟨_, rfl⟩ | exact Or.inr ⟨_, rfl⟩) ⟨rfl, rfl⟩ ?_
    | refine T_aload_n (pc1 := 13) (pc := 12) k_Wr_init_12 rfl rfl ?_
    | refine T_aload_nN (pc1 := 13) (pc := 12) k_Wr_init_12 rfl rfl ?_
    | refine T_bipush (v := (nI 8)) (pc1 := 15) (pc := 13) k_Wr_init_13 rfl (by decide) ?_
    | refine T_newa (n := _) (pc1 := 17) (pc := 15) k_Wr_init_15 rfl (by decide) rfl (by decide) (by first | assumption | (simp only [gz_al, gz_p] at *; omega)) ?_
    | refine T_putRF (pc1 := 20) (pc := 17) k_Wr_init_17 rfl f_Wr_15 rfl (by repeat' first | assumption | exact al_A | refine pR_A ?_ | refine aL_A ?_) (by first | exact Or.inl ⟨_, rfl⟩ | exact Or.inr ⟨_, rfl⟩) ⟨rfl, rfl⟩ ?_
    | refine T_retV (pc := 20) k_Wr_init_20 rfl ?_)
  exact kk
end I1
