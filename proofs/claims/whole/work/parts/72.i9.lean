/-! The constructor of the model. -/
section PI9
def MZ (n : Nat) (I J : IM) : Prop := (∀ i, i < 102 → J i = I i) ∧ (∀ i, 102 ≤ i → i < n → i ≠ 114 → J i = fun _ => 0) ∧ (114 < n → ∀ s, s < 4 → J 114 s = -1)
theorem MZ_al {n : Nat} {I J : IM} (h : MZ n I J) (hn : n ≠ 114) (h1 : 102 ≤ n) : MZ (n + 1) I (va_up J n (fun _ => 0)) := by
  refine ⟨fun i hi => ?_, fun i h2 h3 h4 => ?_, fun h2 s hs => ?_⟩
  · rw [va_up_ne _ _ (by omega)]; exact h.1 i hi
  · by_cases e : i = n
    · subst e; rw [va_up_self]
    · rw [va_up_ne _ _ e]; exact h.2.1 i h2 (by omega) h4
  · rw [va_up_ne _ _ (by omega)]; exact h.2.2 (by omega) s hs
def MS (n : Nat) (G : Geo) (I : IM) (g : Geo) (J : IM) : Prop := Bm n g ∧ g.1 = G.1 ∧ gs g ≤ gs G + 2000 * (n - 102) ∧ MZ n I J
end PI9
section I9
variable {G : Geo} {I : IM} {K : Option Value → Geo → IM → Prop}
set_option maxRecDepth 100000 in
theorem Mi_102 (kk : ∀ g J, MS 103 G I g J → Rl 1 M_M_init 13 [some (.ref 101)] [] g J K) : ∀ g J, MS 102 G I g J → Rl 1 M_M_init 4 [some (.ref 101)] [] g J K := by
  intro g J h
  obtain ⟨B, f1, s1, z1⟩ := h
  have hz := B.1
  have hzz : gz g < 1000000 := by omega
  have h0 : isAg g 101 10 31 := ⟨by omega, B.2.1 101 (by omega)⟩
  repeat' (first
    | ((first | refine T_aload_n (pc1 := 5) (pc := 4) k_M_init_4 rfl rfl ?_ | refine T_aload_nN (pc1 := 5) (pc := 4) k_M_init_4 rfl rfl ?_) <;> try (refine T_sipush (v := (nI 1556)) (pc1 := 8) (pc := 5) k_M_init_5 rfl (by decide) ?_ <;> try (refine T_newa (n := _) (pc1 := 10) (pc := 8) k_M_init_8 rfl (by decide) rfl (by decide) (by first | assumption | (simp only [gz_al, gz_p] at *; omega)) ?_ <;> try (refine T_putRF (pc1 := 13) (pc := 10) k_M_init_10 rfl f_M_9 rfl (by repeat' first | assumption | exact al_A | refine pR_A ?_ | refine aL_A ?_) (by first | exact Or.inl ⟨_, rfl⟩ | exact Or.inr ⟨_, rfl⟩) ⟨rfl, rfl⟩ ?_))))
    | refine T_sipush (v := (nI 1556)) (pc1 := 8) (pc := 5) k_M_init_5 rfl (by decide) ?_
    | refine T_newa (n := _) (pc1 := 10) (pc := 8) k_M_init_8 rfl (by decide) rfl (by decide) (by first | assumption | (simp only [gz_al, gz_p] at *; omega)) ?_
    | refine T_putRF (pc1 := 13) (pc := 10) k_M_init_10 rfl f_M_9 rfl (by repeat' first | assumption | exact al_A | refine pR_A ?_ | refine aL_A ?_) (by first | exact Or.inl ⟨_, rfl⟩ | exact Or.inr ⟨_, rfl⟩) ⟨rfl, rfl⟩ ?_)
  refine kk _ _ ⟨Bm_ar (f := 0) (t := 100) (m := 1556) B (by omega) (by omega) rfl rfl rfl (by decide), f1, ?_, by rw [hz]; exact MZ_al z1 (by omega) (by omega)⟩
  show gs g + 1556 ≤ _
  omega
set_option maxRecDepth 100000 in
theorem Mi_103 (kk : ∀ g J, MS 104 G I g J → Rl 1 M_M_init 22 [some (.ref 101)] [] g J K) : ∀ g J, MS 103 G I g J → Rl 1 M_M_init 13 [some (.ref 101)] [] g J K := by
  intro g J h
  obtain ⟨B, f1, s1, z1⟩ := h
  have hz := B.1
  have hzz : gz g < 1000000 := by omega
  have h0 : isAg g 101 10 31 := ⟨by omega, B.2.1 101 (by omega)⟩
  repeat' (first
    | ((first | refine T_aload_n (pc1 := 14) (pc := 13) k_M_init_13 rfl rfl ?_ | refine T_aload_nN (pc1 := 14) (pc := 13) k_M_init_13 rfl rfl ?_) <;> try (refine T_sipush (v := (nI 1556)) (pc1 := 17) (pc := 14) k_M_init_14 rfl (by decide) ?_ <;> try (refine T_newa (n := _) (pc1 := 19) (pc := 17) k_M_init_17 rfl (by decide) rfl (by decide) (by first | assumption | (simp only [gz_al, gz_p] at *; omega)) ?_ <;> try (refine T_putRF (pc1 := 22) (pc := 19) k_M_init_19 rfl f_M_13 rfl (by repeat' first | assumption | exact al_A | refine pR_A ?_ | refine aL_A ?_) (by first | exact Or.inl ⟨_, rfl⟩ | exact Or.inr ⟨_, rfl⟩) ⟨rfl, rfl⟩ ?_))))
    | refine T_sipush (v := (nI 1556)) (pc1 := 17) (pc := 14) k_M_init_14 rfl (by decide) ?_
    | refine T_newa (n := _) (pc1 := 19) (pc := 17) k_M_init_17 rfl (by decide) rfl (by decide) (by first | assumption | (simp only [gz_al, gz_p] at *; omega)) ?_
    | refine T_putRF (pc1 := 22) (pc := 19) k_M_init_19 rfl f_M_13 rfl (by repeat' first | assumption | exact al_A | refine pR_A ?_ | refine aL_A ?_) (by first | exact Or.inl ⟨_, rfl⟩ | exact Or.inr ⟨_, rfl⟩) ⟨rfl, rfl⟩ ?_)
  refine kk _ _ ⟨Bm_ar (f := 1) (t := 100) (m := 1556) B (by omega) (by omega) rfl rfl rfl (by decide), f1, ?_, by rw [hz]; exact MZ_al z1 (by omega) (by omega)⟩
  show gs g + 1556 ≤ _
  omega
set_option maxRecDepth 100000 in
theorem Mi_104 (kk : ∀ g J, MS 105 G I g J → Rl 1 M_M_init 31 [some (.ref 101)] [] g J K) : ∀ g J, MS 104 G I g J → Rl 1 M_M_init 22 [some (.ref 101)] [] g J K := by
  intro g J h
  obtain ⟨B, f1, s1, z1⟩ := h
  have hz := B.1
  have hzz : gz g < 1000000 := by omega
  have h0 : isAg g 101 10 31 := ⟨by omega, B.2.1 101 (by omega)⟩
  repeat' (first
    | ((first | refine T_aload_n (pc1 := 23) (pc := 22) k_M_init_22 rfl rfl ?_ | refine T_aload_nN (pc1 := 23) (pc := 22) k_M_init_22 rfl rfl ?_) <;> try (refine T_sipush (v := (nI 156)) (pc1 := 26) (pc := 23) k_M_init_23 rfl (by decide) ?_ <;> try (refine T_newa (n := _) (pc1 := 28) (pc := 26) k_M_init_26 rfl (by decide) rfl (by decide) (by first | assumption | (simp only [gz_al, gz_p] at *; omega)) ?_ <;> try (refine T_putRF (pc1 := 31) (pc := 28) k_M_init_28 rfl f_M_16 rfl (by repeat' first | assumption | exact al_A | refine pR_A ?_ | refine aL_A ?_) (by first | exact Or.inl ⟨_, rfl⟩ | exact Or.inr ⟨_, rfl⟩) ⟨rfl, rfl⟩ ?_))))
    | refine T_sipush (v := (nI 156)) (pc1 := 26) (pc := 23) k_M_init_23 rfl (by decide) ?_
    | refine T_newa (n := _) (pc1 := 28) (pc := 26) k_M_init_26 rfl (by decide) rfl (by decide) (by first | assumption | (simp only [gz_al, gz_p] at *; omega)) ?_
    | refine T_putRF (pc1 := 31) (pc := 28) k_M_init_28 rfl f_M_16 rfl (by repeat' first | assumption | exact al_A | refine pR_A ?_ | refine aL_A ?_) (by first | exact Or.inl ⟨_, rfl⟩ | exact Or.inr ⟨_, rfl⟩) ⟨rfl, rfl⟩ ?_)
  refine kk _ _ ⟨Bm_ar (f := 3) (t := 100) (m := 156) B (by omega) (by omega) rfl rfl rfl (by decide), f1, ?_, by rw [hz]; exact MZ_al z1 (by omega) (by omega)⟩
  show gs g + 156 ≤ _
  omega
set_option maxRecDepth 100000 in
theorem Mi_105 (kk : ∀ g J, MS 106 G I g J → Rl 1 M_M_init 39 [some (.ref 101)] [] g J K) : ∀ g J, MS 105 G I g J → Rl 1 M_M_init 31 [some (.ref 101)] [] g J K := by
  intro g J h
  obtain ⟨B, f1, s1, z1⟩ := h
  have hz := B.1
  have hzz : gz g < 1000000 := by omega
  have h0 : isAg g 101 10 31 := ⟨by omega, B.2.1 101 (by omega)⟩
  repeat' (first
    | ((first | refine T_aload_n (pc1 := 32) (pc := 31) k_M_init_31 rfl rfl ?_ | refine T_aload_nN (pc1 := 32) (pc := 31) k_M_init_31 rfl rfl ?_) <;> try (refine T_bipush (v := (nI 14)) (pc1 := 34) (pc := 32) k_M_init_32 rfl (by decide) ?_ <;> try (refine T_newa (n := _) (pc1 := 36) (pc := 34) k_M_init_34 rfl (by decide) rfl (by decide) (by first | assumption | (simp only [gz_al, gz_p] at *; omega)) ?_ <;> try (refine T_putRF (pc1 := 39) (pc := 36) k_M_init_36 rfl f_M_19 rfl (by repeat' first | assumption | exact al_A | refine pR_A ?_ | refine aL_A ?_) (by first | exact Or.inl ⟨_, rfl⟩ | exact Or.inr ⟨_, rfl⟩) ⟨rfl, rfl⟩ ?_))))
    | refine T_bipush (v := (nI 14)) (pc1 := 34) (pc := 32) k_M_init_32 rfl (by decide) ?_
    | refine T_newa (n := _) (pc1 := 36) (pc := 34) k_M_init_34 rfl (by decide) rfl (by decide) (by first | assumption | (simp only [gz_al, gz_p] at *; omega)) ?_
    | refine T_putRF (pc1 := 39) (pc := 36) k_M_init_36 rfl f_M_19 rfl (by repeat' first | assumption | exact al_A | refine pR_A ?_ | refine aL_A ?_) (by first | exact Or.inl ⟨_, rfl⟩ | exact Or.inr ⟨_, rfl⟩) ⟨rfl, rfl⟩ ?_)
  refine kk _ _ ⟨Bm_ar (f := 4) (t := 100) (m := 14) B (by omega) (by omega) rfl rfl rfl (by decide), f1, ?_, by rw [hz]; exact MZ_al z1 (by omega) (by omega)⟩
  show gs g + 14 ≤ _
  omega
set_option maxRecDepth 100000 in
theorem Mi_106 (kk : ∀ g J, MS 107 G I g J → Rl 1 M_M_init 47 [some (.ref 101)] [] g J K) : ∀ g J, MS 106 G I g J → Rl 1 M_M_init 39 [some (.ref 101)] [] g J K := by
  intro g J h
  obtain ⟨B, f1, s1, z1⟩ := h
  have hz := B.1
  have hzz : gz g < 1000000 := by omega
  have h0 : isAg g 101 10 31 := ⟨by omega, B.2.1 101 (by omega)⟩
  repeat' (first
    | ((first | refine T_aload_n (pc1 := 40) (pc := 39) k_M_init_39 rfl rfl ?_ | refine T_aload_nN (pc1 := 40) (pc := 39) k_M_init_39 rfl rfl ?_) <;> try (refine T_bipush (v := (nI 8)) (pc1 := 42) (pc := 40) k_M_init_40 rfl (by decide) ?_ <;> try (refine T_newa (n := _) (pc1 := 44) (pc := 42) k_M_init_42 rfl (by decide) rfl (by decide) (by first | assumption | (simp only [gz_al, gz_p] at *; omega)) ?_ <;> try (refine T_putRF (pc1 := 47) (pc := 44) k_M_init_44 rfl f_M_22 rfl (by repeat' first | assumption | exact al_A | refine pR_A ?_ | refine aL_A ?_) (by first | exact Or.inl ⟨_, rfl⟩ | exact Or.inr ⟨_, rfl⟩) ⟨rfl, rfl⟩ ?_))))
    | refine T_bipush (v := (nI 8)) (pc1 := 42) (pc := 40) k_M_init_40 rfl (by decide) ?_
    | refine T_newa (n := _) (pc1 := 44) (pc := 42) k_M_init_42 rfl (by decide) rfl (by decide) (by first | assumption | (simp only [gz_al, gz_p] at *; omega)) ?_
    | refine T_putRF (pc1 := 47) (pc := 44) k_M_init_44 rfl f_M_22 rfl (by repeat' first | assumption | exact al_A | refine pR_A ?_ | refine aL_A ?_) (by first | exact Or.inl ⟨_, rfl⟩ | exact Or.inr ⟨_, rfl⟩) ⟨rfl, rfl⟩ ?_)
  refine kk _ _ ⟨Bm_ar (f := 5) (t := 100) (m := 8) B (by omega) (by omega) rfl rfl rfl (by decide), f1, ?_, by rw [hz]; exact MZ_al z1 (by omega) (by omega)⟩
  show gs g + 8 ≤ _
  omega
set_option maxRecDepth 100000 in
theorem Mi_107 (kk : ∀ g J, MS 108 G I g J → Rl 1 M_M_init 55 [some (.ref 101)] [] g J K) : ∀ g J, MS 107 G I g J → Rl 1 M_M_init 47 [some (.ref 101)] [] g J K := by
  intro g J h
  obtain ⟨B, f1, s1, z1⟩ := h
  have hz := B.1
  have hzz : gz g < 1000000 := by omega
  have h0 : isAg g 101 10 31 := ⟨by omega, B.2.1 101 (by omega)⟩
  repeat' (first
    | ((first | refine T_aload_n (pc1 := 48) (pc := 47) k_M_init_47 rfl rfl ?_ | refine T_aload_nN (pc1 := 48) (pc := 47) k_M_init_47 rfl rfl ?_) <;> try (refine T_bipush (v := (nI 62)) (pc1 := 50) (pc := 48) k_M_init_48 rfl (by decide) ?_ <;> try (refine T_newa (n := _) (pc1 := 52) (pc := 50) k_M_init_50 rfl (by decide) rfl (by decide) (by first | assumption | (simp only [gz_al, gz_p] at *; omega)) ?_ <;> try (refine T_putRF (pc1 := 55) (pc := 52) k_M_init_52 rfl f_M_25 rfl (by repeat' first | assumption | exact al_A | refine pR_A ?_ | refine aL_A ?_) (by first | exact Or.inl ⟨_, rfl⟩ | exact Or.inr ⟨_, rfl⟩) ⟨rfl, rfl⟩ ?_))))
    | refine T_bipush (v := (nI 62)) (pc1 := 50) (pc := 48) k_M_init_48 rfl (by decide) ?_
    | refine T_newa (n := _) (pc1 := 52) (pc := 50) k_M_init_50 rfl (by decide) rfl (by decide) (by first | assumption | (simp only [gz_al, gz_p] at *; omega)) ?_
    | refine T_putRF (pc1 := 55) (pc := 52) k_M_init_52 rfl f_M_25 rfl (by repeat' first | assumption | exact al_A | refine pR_A ?_ | refine aL_A ?_) (by first | exact Or.inl ⟨_, rfl⟩ | exact Or.inr ⟨_, rfl⟩) ⟨rfl, rfl⟩ ?_)
  refine kk _ _ ⟨Bm_ar (f := 6) (t := 100) (m := 62) B (by omega) (by omega) rfl rfl rfl (by decide), f1, ?_, by rw [hz]; exact MZ_al z1 (by omega) (by omega)⟩
  show gs g + 62 ≤ _
  omega
set_option maxRecDepth 100000 in
theorem Mi_108 (kk : ∀ g J, MS 109 G I g J → Rl 1 M_M_init 63 [some (.ref 101)] [] g J K) : ∀ g J, MS 108 G I g J → Rl 1 M_M_init 55 [some (.ref 101)] [] g J K := by
  intro g J h
  obtain ⟨B, f1, s1, z1⟩ := h
  have hz := B.1
  have hzz : gz g < 1000000 := by omega
  have h0 : isAg g 101 10 31 := ⟨by omega, B.2.1 101 (by omega)⟩
  repeat' (first
    | ((first | refine T_aload_n (pc1 := 56) (pc := 55) k_M_init_55 rfl rfl ?_ | refine T_aload_nN (pc1 := 56) (pc := 55) k_M_init_55 rfl rfl ?_) <;> try (refine T_bipush (v := (nI 96)) (pc1 := 58) (pc := 56) k_M_init_56 rfl (by decide) ?_ <;> try (refine T_newa (n := _) (pc1 := 60) (pc := 58) k_M_init_58 rfl (by decide) rfl (by decide) (by first | assumption | (simp only [gz_al, gz_p] at *; omega)) ?_ <;> try (refine T_putRF (pc1 := 63) (pc := 60) k_M_init_60 rfl f_M_28 rfl (by repeat' first | assumption | exact al_A | refine pR_A ?_ | refine aL_A ?_) (by first | exact Or.inl ⟨_, rfl⟩ | exact Or.inr ⟨_, rfl⟩) ⟨rfl, rfl⟩ ?_))))
    | refine T_bipush (v := (nI 96)) (pc1 := 58) (pc := 56) k_M_init_56 rfl (by decide) ?_
    | refine T_newa (n := _) (pc1 := 60) (pc := 58) k_M_init_58 rfl (by decide) rfl (by decide) (by first | assumption | (simp only [gz_al, gz_p] at *; omega)) ?_
    | refine T_putRF (pc1 := 63) (pc := 60) k_M_init_60 rfl f_M_28 rfl (by repeat' first | assumption | exact al_A | refine pR_A ?_ | refine aL_A ?_) (by first | exact Or.inl ⟨_, rfl⟩ | exact Or.inr ⟨_, rfl⟩) ⟨rfl, rfl⟩ ?_)
  refine kk _ _ ⟨Bm_ar (f := 7) (t := 100) (m := 96) B (by omega) (by omega) rfl rfl rfl (by decide), f1, ?_, by rw [hz]; exact MZ_al z1 (by omega) (by omega)⟩
  show gs g + 96 ≤ _
  omega
set_option maxRecDepth 100000 in
theorem Mi_109 (kk : ∀ g J, MS 110 G I g J → Rl 1 M_M_init 86 [some (.ref 101)] [] g J K) : ∀ g J, MS 109 G I g J → Rl 1 M_M_init 63 [some (.ref 101)] [] g J K := by
  intro g J h
  obtain ⟨B, f1, s1, z1⟩ := h
  have hz := B.1
  have hzz : gz g < 1000000 := by omega
  have h0 : isAg g 101 10 31 := ⟨by omega, B.2.1 101 (by omega)⟩
  repeat' (first
    | ((first | refine T_aload_n (pc1 := 64) (pc := 63) k_M_init_63 rfl rfl ?_ | refine T_aload_nN (pc1 := 64) (pc := 63) k_M_init_63 rfl rfl ?_) <;> try (refine T_iconst (v := (nI 3)) (pc1 := 65) (pc := 64) k_M_init_64 rfl (by decide) ?_ <;> try (refine T_anew (n := _) (e0 := 4) (pc1 := 68) (pc := 65) k_M_init_65 rfl rfl n_M_31 (by decide) rfl (by decide) (by first | assumption | (simp only [gz_al, gz_p] at *; omega)) ?_ <;> try (refine T_dup (pc1 := 69) (pc := 68) k_M_init_68 rfl rfl ?_ <;> try (refine T_iconst (v := (nI 0)) (pc1 := 70) (pc := 69) k_M_init_69 rfl (by decide) ?_ <;> try (refine T_ldcS (tx := "take") (j := 0) (pc1 := 72) (pc := 70) k_M_init_70 rfl s_M_33 ?_ <;> try (refine T_aastS (pc1 := 73) (pc := 72) k_M_init_72 rfl (by repeat' first | exact al_A | refine pR_A ?_) (vp_in_nI (by decide) (by decide)) (by decide) ?_ <;> try (refine T_dup (pc1 := 74) (pc := 73) k_M_init_73 rfl rfl ?_ <;> try (refine T_iconst (v := (nI 1)) (pc1 := 75) (pc := 74) k_M_init_74 rfl (by decide) ?_ <;> try (refine T_ldcS (tx := "think") (j := 1) (pc1 := 77) (pc := 75) k_M_init_75 rfl s_M_35 ?_ <;> try (refine T_aastS (pc1 := 78) (pc := 77) k_M_init_77 rfl (by repeat' first | exact al_A | refine pR_A ?_) (vp_in_nI (by decide) (by decide)) (by decide) ?_ <;> try (refine T_dup (pc1 := 79) (pc := 78) k_M_init_78 rfl rfl ?_ <;> try (refine T_iconst (v := (nI 2)) (pc1 := 80) (pc := 79) k_M_init_79 rfl (by decide) ?_ <;> try (refine T_ldcS (tx := "fine") (j := 2) (pc1 := 82) (pc := 80) k_M_init_80 rfl s_M_37 ?_))))))))))))))
    | (refine T_aastS (pc1 := 83) (pc := 82) k_M_init_82 rfl (by repeat' first | exact al_A | refine pR_A ?_) (vp_in_nI (by decide) (by decide)) (by decide) ?_ <;> try (refine T_putRF (pc1 := 86) (pc := 83) k_M_init_83 rfl f_M_39 rfl (by repeat' first | assumption | exact al_A | refine pR_A ?_ | refine aL_A ?_) (by first | exact Or.inl ⟨_, rfl⟩ | exact Or.inr ⟨_, rfl⟩) ⟨rfl, rfl⟩ ?_))
    | refine T_iconst (v := (nI 3)) (pc1 := 65) (pc := 64) k_M_init_64 rfl (by decide) ?_
    | refine T_anew (n := _) (e0 := 4) (pc1 := 68) (pc := 65) k_M_init_65 rfl rfl n_M_31 (by decide) rfl (by decide) (by first | assumption | (simp only [gz_al, gz_p] at *; omega)) ?_
    | refine T_dup (pc1 := 69) (pc := 68) k_M_init_68 rfl rfl ?_
    | refine T_iconst (v := (nI 0)) (pc1 := 70) (pc := 69) k_M_init_69 rfl (by decide) ?_
    | refine T_ldcS (tx := "take") (j := 0) (pc1 := 72) (pc := 70) k_M_init_70 rfl s_M_33 ?_
    | refine T_aastS (pc1 := 73) (pc := 72) k_M_init_72 rfl (by repeat' first | exact al_A | refine pR_A ?_) (vp_in_nI (by decide) (by decide)) (by decide) ?_
    | refine T_dup (pc1 := 74) (pc := 73) k_M_init_73 rfl rfl ?_
    | refine T_iconst (v := (nI 1)) (pc1 := 75) (pc := 74) k_M_init_74 rfl (by decide) ?_
    | refine T_ldcS (tx := "think") (j := 1) (pc1 := 77) (pc := 75) k_M_init_75 rfl s_M_35 ?_
    | refine T_aastS (pc1 := 78) (pc := 77) k_M_init_77 rfl (by repeat' first | exact al_A | refine pR_A ?_) (vp_in_nI (by decide) (by decide)) (by decide) ?_
    | refine T_dup (pc1 := 79) (pc := 78) k_M_init_78 rfl rfl ?_
    | refine T_iconst (v := (nI 2)) (pc1 := 80) (pc := 79) k_M_init_79 rfl (by decide) ?_
    | refine T_ldcS (tx := "fine") (j := 2) (pc1 := 82) (pc := 80) k_M_init_80 rfl s_M_37 ?_
    | refine T_putRF (pc1 := 86) (pc := 83) k_M_init_83 rfl f_M_39 rfl (by repeat' first | assumption | exact al_A | refine pR_A ?_ | refine aL_A ?_) (by first | exact Or.inl ⟨_, rfl⟩ | exact Or.inr ⟨_, rfl⟩) ⟨rfl, rfl⟩ ?_)
  refine kk _ _ ⟨Bm_st9 B, f1, ?_, by rw [hz]; exact MZ_al z1 (by omega) (by omega)⟩
  show gs g + 3 ≤ _
  omega
set_option maxRecDepth 100000 in
theorem Mi_110 (kk : ∀ g J, MS 111 G I g J → Rl 1 M_M_init 109 [some (.ref 101)] [] g J K) : ∀ g J, MS 110 G I g J → Rl 1 M_M_init 86 [some (.ref 101)] [] g J K := by
  intro g J h
  obtain ⟨B, f1, s1, z1⟩ := h
  have hz := B.1
  have hzz : gz g < 1000000 := by omega
  have h0 : isAg g 101 10 31 := ⟨by omega, B.2.1 101 (by omega)⟩
  repeat' (first
    | ((first | refine T_aload_n (pc1 := 87) (pc := 86) k_M_init_86 rfl rfl ?_ | refine T_aload_nN (pc1 := 87) (pc := 86) k_M_init_86 rfl rfl ?_) <;> try (refine T_iconst (v := (nI 3)) (pc1 := 88) (pc := 87) k_M_init_87 rfl (by decide) ?_ <;> try (refine T_anew (n := _) (e0 := 4) (pc1 := 91) (pc := 88) k_M_init_88 rfl rfl n_M_31 (by decide) rfl (by decide) (by first | assumption | (simp only [gz_al, gz_p] at *; omega)) ?_ <;> try (refine T_dup (pc1 := 92) (pc := 91) k_M_init_91 rfl rfl ?_ <;> try (refine T_iconst (v := (nI 0)) (pc1 := 93) (pc := 92) k_M_init_92 rfl (by decide) ?_ <;> try (refine T_ldcS (tx := "lwt") (j := 3) (pc1 := 95) (pc := 93) k_M_init_93 rfl s_M_43 ?_ <;> try (refine T_aastS (pc1 := 96) (pc := 95) k_M_init_95 rfl (by repeat' first | exact al_A | refine pR_A ?_) (vp_in_nI (by decide) (by decide)) (by decide) ?_ <;> try (refine T_dup (pc1 := 97) (pc := 96) k_M_init_96 rfl rfl ?_ <;> try (refine T_iconst (v := (nI 1)) (pc1 := 98) (pc := 97) k_M_init_97 rfl (by decide) ?_ <;> try (refine T_ldcS (tx := "sgk") (j := 4) (pc1 := 100) (pc := 98) k_M_init_98 rfl s_M_45 ?_ <;> try (refine T_aastS (pc1 := 101) (pc := 100) k_M_init_100 rfl (by repeat' first | exact al_A | refine pR_A ?_) (vp_in_nI (by decide) (by decide)) (by decide) ?_ <;> try (refine T_dup (pc1 := 102) (pc := 101) k_M_init_101 rfl rfl ?_ <;> try (refine T_iconst (v := (nI 2)) (pc1 := 103) (pc := 102) k_M_init_102 rfl (by decide) ?_ <;> try (refine T_ldcS (tx := "mw") (j := 5) (pc1 := 105) (pc := 103) k_M_init_103 rfl s_M_47 ?_))))))))))))))
    | (refine T_aastS (pc1 := 106) (pc := 105) k_M_init_105 rfl (by repeat' first | exact al_A | refine pR_A ?_) (vp_in_nI (by decide) (by decide)) (by decide) ?_ <;> try (refine T_putRF (pc1 := 109) (pc := 106) k_M_init_106 rfl f_M_49 rfl (by repeat' first | assumption | exact al_A | refine pR_A ?_ | refine aL_A ?_) (by first | exact Or.inl ⟨_, rfl⟩ | exact Or.inr ⟨_, rfl⟩) ⟨rfl, rfl⟩ ?_))
    | refine T_iconst (v := (nI 3)) (pc1 := 88) (pc := 87) k_M_init_87 rfl (by decide) ?_
    | refine T_anew (n := _) (e0 := 4) (pc1 := 91) (pc := 88) k_M_init_88 rfl rfl n_M_31 (by decide) rfl (by decide) (by first | assumption | (simp only [gz_al, gz_p] at *; omega)) ?_
    | refine T_dup (pc1 := 92) (pc := 91) k_M_init_91 rfl rfl ?_
    | refine T_iconst (v := (nI 0)) (pc1 := 93) (pc := 92) k_M_init_92 rfl (by decide) ?_
    | refine T_ldcS (tx := "lwt") (j := 3) (pc1 := 95) (pc := 93) k_M_init_93 rfl s_M_43 ?_
    | refine T_aastS (pc1 := 96) (pc := 95) k_M_init_95 rfl (by repeat' first | exact al_A | refine pR_A ?_) (vp_in_nI (by decide) (by decide)) (by decide) ?_
    | refine T_dup (pc1 := 97) (pc := 96) k_M_init_96 rfl rfl ?_
    | refine T_iconst (v := (nI 1)) (pc1 := 98) (pc := 97) k_M_init_97 rfl (by decide) ?_
    | refine T_ldcS (tx := "sgk") (j := 4) (pc1 := 100) (pc := 98) k_M_init_98 rfl s_M_45 ?_
    | refine T_aastS (pc1 := 101) (pc := 100) k_M_init_100 rfl (by repeat' first | exact al_A | refine pR_A ?_) (vp_in_nI (by decide) (by decide)) (by decide) ?_
    | refine T_dup (pc1 := 102) (pc := 101) k_M_init_101 rfl rfl ?_
    | refine T_iconst (v := (nI 2)) (pc1 := 103) (pc := 102) k_M_init_102 rfl (by decide) ?_
    | refine T_ldcS (tx := "mw") (j := 5) (pc1 := 105) (pc := 103) k_M_init_103 rfl s_M_47 ?_
    | refine T_putRF (pc1 := 109) (pc := 106) k_M_init_106 rfl f_M_49 rfl (by repeat' first | assumption | exact al_A | refine pR_A ?_ | refine aL_A ?_) (by first | exact Or.inl ⟨_, rfl⟩ | exact Or.inr ⟨_, rfl⟩) ⟨rfl, rfl⟩ ?_)
  refine kk _ _ ⟨Bm_st10 B, f1, ?_, by rw [hz]; exact MZ_al z1 (by omega) (by omega)⟩
  show gs g + 3 ≤ _
  omega
set_option maxRecDepth 100000 in
theorem Mi_111 (kk : ∀ g J, MS 112 G I g J → Rl 1 M_M_init 117 [some (.ref 101)] [] g J K) : ∀ g J, MS 111 G I g J → Rl 1 M_M_init 109 [some (.ref 101)] [] g J K := by
  intro g J h
  obtain ⟨B, f1, s1, z1⟩ := h
  have hz := B.1
  have hzz : gz g < 1000000 := by omega
  have h0 : isAg g 101 10 31 := ⟨by omega, B.2.1 101 (by omega)⟩
  repeat' (first
    | ((first | refine T_aload_n (pc1 := 110) (pc := 109) k_M_init_109 rfl rfl ?_ | refine T_aload_nN (pc1 := 110) (pc := 109) k_M_init_109 rfl rfl ?_) <;> try (refine T_bipush (v := (nI 100)) (pc1 := 112) (pc := 110) k_M_init_110 rfl (by decide) ?_ <;> try (refine T_newa (n := _) (pc1 := 114) (pc := 112) k_M_init_112 rfl (by decide) rfl (by decide) (by first | assumption | (simp only [gz_al, gz_p] at *; omega)) ?_ <;> try (refine T_putRF (pc1 := 117) (pc := 114) k_M_init_114 rfl f_M_52 rfl (by repeat' first | assumption | exact al_A | refine pR_A ?_ | refine aL_A ?_) (by first | exact Or.inl ⟨_, rfl⟩ | exact Or.inr ⟨_, rfl⟩) ⟨rfl, rfl⟩ ?_))))
    | refine T_bipush (v := (nI 100)) (pc1 := 112) (pc := 110) k_M_init_110 rfl (by decide) ?_
    | refine T_newa (n := _) (pc1 := 114) (pc := 112) k_M_init_112 rfl (by decide) rfl (by decide) (by first | assumption | (simp only [gz_al, gz_p] at *; omega)) ?_
    | refine T_putRF (pc1 := 117) (pc := 114) k_M_init_114 rfl f_M_52 rfl (by repeat' first | assumption | exact al_A | refine pR_A ?_ | refine aL_A ?_) (by first | exact Or.inl ⟨_, rfl⟩ | exact Or.inr ⟨_, rfl⟩) ⟨rfl, rfl⟩ ?_)
  refine kk _ _ ⟨Bm_ar (f := 20) (t := 100) (m := 100) B (by omega) (by omega) rfl rfl rfl (by decide), f1, ?_, by rw [hz]; exact MZ_al z1 (by omega) (by omega)⟩
  show gs g + 100 ≤ _
  omega
set_option maxRecDepth 100000 in
theorem Mi_112 (kk : ∀ g J, MS 113 G I g J → Rl 1 M_M_init 124 [some (.ref 101)] [] g J K) : ∀ g J, MS 112 G I g J → Rl 1 M_M_init 117 [some (.ref 101)] [] g J K := by
  intro g J h
  obtain ⟨B, f1, s1, z1⟩ := h
  have hz := B.1
  have hzz : gz g < 1000000 := by omega
  have h0 : isAg g 101 10 31 := ⟨by omega, B.2.1 101 (by omega)⟩
  repeat' (first
    | ((first | refine T_aload_n (pc1 := 118) (pc := 117) k_M_init_117 rfl rfl ?_ | refine T_aload_nN (pc1 := 118) (pc := 117) k_M_init_117 rfl rfl ?_) <;> try (refine T_iconst (v := (nI 3)) (pc1 := 119) (pc := 118) k_M_init_118 rfl (by decide) ?_ <;> try (refine T_newa (n := _) (pc1 := 121) (pc := 119) k_M_init_119 rfl (by decide) rfl (by decide) (by first | assumption | (simp only [gz_al, gz_p] at *; omega)) ?_ <;> try (refine T_putRF (pc1 := 124) (pc := 121) k_M_init_121 rfl f_M_55 rfl (by repeat' first | assumption | exact al_A | refine pR_A ?_ | refine aL_A ?_) (by first | exact Or.inl ⟨_, rfl⟩ | exact Or.inr ⟨_, rfl⟩) ⟨rfl, rfl⟩ ?_))))
    | refine T_iconst (v := (nI 3)) (pc1 := 119) (pc := 118) k_M_init_118 rfl (by decide) ?_
    | refine T_newa (n := _) (pc1 := 121) (pc := 119) k_M_init_119 rfl (by decide) rfl (by decide) (by first | assumption | (simp only [gz_al, gz_p] at *; omega)) ?_
    | refine T_putRF (pc1 := 124) (pc := 121) k_M_init_121 rfl f_M_55 rfl (by repeat' first | assumption | exact al_A | refine pR_A ?_ | refine aL_A ?_) (by first | exact Or.inl ⟨_, rfl⟩ | exact Or.inr ⟨_, rfl⟩) ⟨rfl, rfl⟩ ?_)
  refine kk _ _ ⟨Bm_ar (f := 21) (t := 100) (m := 3) B (by omega) (by omega) rfl rfl rfl (by decide), f1, ?_, by rw [hz]; exact MZ_al z1 (by omega) (by omega)⟩
  show gs g + 3 ≤ _
  omega
set_option maxRecDepth 100000 in
theorem Mi_113 (kk : ∀ g J, MS 114 G I g J → Rl 1 M_M_init 132 [some (.ref 101)] [] g J K) : ∀ g J, MS 113 G I g J → Rl 1 M_M_init 124 [some (.ref 101)] [] g J K := by
  intro g J h
  obtain ⟨B, f1, s1, z1⟩ := h
  have hz := B.1
  have hzz : gz g < 1000000 := by omega
  have h0 : isAg g 101 10 31 := ⟨by omega, B.2.1 101 (by omega)⟩
  repeat' (first
    | ((first | refine T_aload_n (pc1 := 125) (pc := 124) k_M_init_124 rfl rfl ?_ | refine T_aload_nN (pc1 := 125) (pc := 124) k_M_init_124 rfl rfl ?_) <;> try (refine T_bipush (v := (nI 100)) (pc1 := 127) (pc := 125) k_M_init_125 rfl (by decide) ?_ <;> try (refine T_newa (n := _) (pc1 := 129) (pc := 127) k_M_init_127 rfl (by decide) rfl (by decide) (by first | assumption | (simp only [gz_al, gz_p] at *; omega)) ?_ <;> try (refine T_putRF (pc1 := 132) (pc := 129) k_M_init_129 rfl f_M_58 rfl (by repeat' first | assumption | exact al_A | refine pR_A ?_ | refine aL_A ?_) (by first | exact Or.inl ⟨_, rfl⟩ | exact Or.inr ⟨_, rfl⟩) ⟨rfl, rfl⟩ ?_))))
    | refine T_bipush (v := (nI 100)) (pc1 := 127) (pc := 125) k_M_init_125 rfl (by decide) ?_
    | refine T_newa (n := _) (pc1 := 129) (pc := 127) k_M_init_127 rfl (by decide) rfl (by decide) (by first | assumption | (simp only [gz_al, gz_p] at *; omega)) ?_
    | refine T_putRF (pc1 := 132) (pc := 129) k_M_init_129 rfl f_M_58 rfl (by repeat' first | assumption | exact al_A | refine pR_A ?_ | refine aL_A ?_) (by first | exact Or.inl ⟨_, rfl⟩ | exact Or.inr ⟨_, rfl⟩) ⟨rfl, rfl⟩ ?_)
  refine kk _ _ ⟨Bm_ar (f := 22) (t := 100) (m := 100) B (by omega) (by omega) rfl rfl rfl (by decide), f1, ?_, by rw [hz]; exact MZ_al z1 (by omega) (by omega)⟩
  show gs g + 100 ≤ _
  omega
set_option maxRecDepth 100000 in
theorem Mi_114 (kk : ∀ g J, MS 115 G I g J → Rl 1 M_M_init 155 [some (.ref 101)] [] g J K) : ∀ g J, MS 114 G I g J → Rl 1 M_M_init 132 [some (.ref 101)] [] g J K := by
  intro g J h
  obtain ⟨B, f1, s1, z1⟩ := h
  have hz := B.1
  have hzz : gz g < 1000000 := by omega
  have h0 : isAg g 101 10 31 := ⟨by omega, B.2.1 101 (by omega)⟩
  repeat' (first
    | ((first | refine T_aload_n (pc1 := 133) (pc := 132) k_M_init_132 rfl rfl ?_ | refine T_aload_nN (pc1 := 133) (pc := 132) k_M_init_132 rfl rfl ?_) <;> try (refine T_iconst (v := (nI 4)) (pc1 := 134) (pc := 133) k_M_init_133 rfl (by decide) ?_ <;> try (refine T_newa (n := _) (pc1 := 136) (pc := 134) k_M_init_134 rfl (by decide) rfl (by decide) (by first | assumption | (simp only [gz_al, gz_p] at *; omega)) ?_ <;> try (refine T_dup (pc1 := 137) (pc := 136) k_M_init_136 rfl rfl ?_ <;> try (refine T_iconst (v := (nI 0)) (pc1 := 138) (pc := 137) k_M_init_137 rfl (by decide) ?_ <;> try (refine T_iconst (v := (-1)) (pc1 := 139) (pc := 138) k_M_init_138 rfl (by decide) ?_ <;> try (refine T_iastN (pc1 := 140) (pc := 139) k_M_init_139 rfl al_A (by decide) (by decide) ?_ <;> try (refine T_dup (pc1 := 141) (pc := 140) k_M_init_140 rfl rfl ?_ <;> try (refine T_iconst (v := (nI 1)) (pc1 := 142) (pc := 141) k_M_init_141 rfl (by decide) ?_ <;> try (refine T_iconst (v := (-1)) (pc1 := 143) (pc := 142) k_M_init_142 rfl (by decide) ?_ <;> try (refine T_iastN (pc1 := 144) (pc := 143) k_M_init_143 rfl al_A (by decide) (by decide) ?_ <;> try (refine T_dup (pc1 := 145) (pc := 144) k_M_init_144 rfl rfl ?_ <;> try (refine T_iconst (v := (nI 2)) (pc1 := 146) (pc := 145) k_M_init_145 rfl (by decide) ?_ <;> try (refine T_iconst (v := (-1)) (pc1 := 147) (pc := 146) k_M_init_146 rfl (by decide) ?_))))))))))))))
    | (refine T_iastN (pc1 := 148) (pc := 147) k_M_init_147 rfl al_A (by decide) (by decide) ?_ <;> try (refine T_dup (pc1 := 149) (pc := 148) k_M_init_148 rfl rfl ?_ <;> try (refine T_iconst (v := (nI 3)) (pc1 := 150) (pc := 149) k_M_init_149 rfl (by decide) ?_ <;> try (refine T_iconst (v := (-1)) (pc1 := 151) (pc := 150) k_M_init_150 rfl (by decide) ?_ <;> try (refine T_iastN (pc1 := 152) (pc := 151) k_M_init_151 rfl al_A (by decide) (by decide) ?_ <;> try (refine T_putRF (pc1 := 155) (pc := 152) k_M_init_152 rfl f_M_61 rfl (by repeat' first | assumption | exact al_A | refine pR_A ?_ | refine aL_A ?_) (by first | exact Or.inl ⟨_, rfl⟩ | exact Or.inr ⟨_, rfl⟩) ⟨rfl, rfl⟩ ?_))))))
    | refine T_iconst (v := (nI 4)) (pc1 := 134) (pc := 133) k_M_init_133 rfl (by decide) ?_
    | refine T_newa (n := _) (pc1 := 136) (pc := 134) k_M_init_134 rfl (by decide) rfl (by decide) (by first | assumption | (simp only [gz_al, gz_p] at *; omega)) ?_
    | refine T_dup (pc1 := 137) (pc := 136) k_M_init_136 rfl rfl ?_
    | refine T_iconst (v := (nI 0)) (pc1 := 138) (pc := 137) k_M_init_137 rfl (by decide) ?_
    | refine T_iconst (v := (-1)) (pc1 := 139) (pc := 138) k_M_init_138 rfl (by decide) ?_
    | refine T_iastN (pc1 := 140) (pc := 139) k_M_init_139 rfl al_A (by decide) (by decide) ?_
    | refine T_dup (pc1 := 141) (pc := 140) k_M_init_140 rfl rfl ?_
    | refine T_iconst (v := (nI 1)) (pc1 := 142) (pc := 141) k_M_init_141 rfl (by decide) ?_
    | refine T_iconst (v := (-1)) (pc1 := 143) (pc := 142) k_M_init_142 rfl (by decide) ?_
    | refine T_iastN (pc1 := 144) (pc := 143) k_M_init_143 rfl al_A (by decide) (by decide) ?_
    | refine T_dup (pc1 := 145) (pc := 144) k_M_init_144 rfl rfl ?_
    | refine T_iconst (v := (nI 2)) (pc1 := 146) (pc := 145) k_M_init_145 rfl (by decide) ?_
    | refine T_iconst (v := (-1)) (pc1 := 147) (pc := 146) k_M_init_146 rfl (by decide) ?_
    | refine T_dup (pc1 := 149) (pc := 148) k_M_init_148 rfl rfl ?_
    | refine T_iconst (v := (nI 3)) (pc1 := 150) (pc := 149) k_M_init_149 rfl (by decide) ?_
    | refine T_iconst (v := (-1)) (pc1 := 151) (pc := 150) k_M_init_150 rfl (by decide) ?_
    | refine T_iastN (pc1 := 152) (pc := 151) k_M_init_151 rfl al_A (by decide) (by decide) ?_
    | refine T_putRF (pc1 := 155) (pc := 152) k_M_init_152 rfl f_M_61 rfl (by repeat' first | assumption | exact al_A | refine pR_A ?_ | refine aL_A ?_) (by first | exact Or.inl ⟨_, rfl⟩ | exact Or.inr ⟨_, rfl⟩) ⟨rfl, rfl⟩ ?_)
  refine kk _ _ ⟨Bm_ar (f := 23) (t := 100) (m := 4) B (by omega) (by omega) rfl rfl rfl (by decide), f1, ?_, ?_⟩
  · show gs g + 4 ≤ _
    omega
  · rw [hz]
    refine ⟨fun i hi => ?_, fun i h2 h3 h4 => ?_, fun h2 s hs => ?_⟩
    · simp (disch := omega) only [pI_rw, va_up_ne, ne_eq]
      exact z1.1 i hi
    · simp (disch := omega) only [pI_rw, va_up_ne, ne_eq]
      exact z1.2.1 i h2 (by omega) h4
    · obtain rfl | rfl | rfl | rfl : s = 0 ∨ s = 1 ∨ s = 2 ∨ s = 3 := by omega
      all_goals simp (disch := omega) only [pI_eq, pI_col, ne_eq]
set_option maxRecDepth 100000 in
theorem Mi_115 (kk : ∀ g J, MS 116 G I g J → Rl 1 M_M_init 162 [some (.ref 101)] [] g J K) : ∀ g J, MS 115 G I g J → Rl 1 M_M_init 155 [some (.ref 101)] [] g J K := by
  intro g J h
  obtain ⟨B, f1, s1, z1⟩ := h
  have hz := B.1
  have hzz : gz g < 1000000 := by omega
  have h0 : isAg g 101 10 31 := ⟨by omega, B.2.1 101 (by omega)⟩
  repeat' (first
    | ((first | refine T_aload_n (pc1 := 156) (pc := 155) k_M_init_155 rfl rfl ?_ | refine T_aload_nN (pc1 := 156) (pc := 155) k_M_init_155 rfl rfl ?_) <;> try (refine T_iconst (v := (nI 4)) (pc1 := 157) (pc := 156) k_M_init_156 rfl (by decide) ?_ <;> try (refine T_newa (n := _) (pc1 := 159) (pc := 157) k_M_init_157 rfl (by decide) rfl (by decide) (by first | assumption | (simp only [gz_al, gz_p] at *; omega)) ?_ <;> try (refine T_putRF (pc1 := 162) (pc := 159) k_M_init_159 rfl f_M_64 rfl (by repeat' first | assumption | exact al_A | refine pR_A ?_ | refine aL_A ?_) (by first | exact Or.inl ⟨_, rfl⟩ | exact Or.inr ⟨_, rfl⟩) ⟨rfl, rfl⟩ ?_))))
    | refine T_iconst (v := (nI 4)) (pc1 := 157) (pc := 156) k_M_init_156 rfl (by decide) ?_
    | refine T_newa (n := _) (pc1 := 159) (pc := 157) k_M_init_157 rfl (by decide) rfl (by decide) (by first | assumption | (simp only [gz_al, gz_p] at *; omega)) ?_
    | refine T_putRF (pc1 := 162) (pc := 159) k_M_init_159 rfl f_M_64 rfl (by repeat' first | assumption | exact al_A | refine pR_A ?_ | refine aL_A ?_) (by first | exact Or.inl ⟨_, rfl⟩ | exact Or.inr ⟨_, rfl⟩) ⟨rfl, rfl⟩ ?_)
  refine kk _ _ ⟨Bm_ar (f := 24) (t := 100) (m := 4) B (by omega) (by omega) rfl rfl rfl (by decide), f1, ?_, by rw [hz]; exact MZ_al z1 (by omega) (by omega)⟩
  show gs g + 4 ≤ _
  omega
set_option maxRecDepth 100000 in
theorem Mi_116 (kk : ∀ g J, MS 117 G I g J → Rl 1 M_M_init 170 [some (.ref 101)] [] g J K) : ∀ g J, MS 116 G I g J → Rl 1 M_M_init 162 [some (.ref 101)] [] g J K := by
  intro g J h
  obtain ⟨B, f1, s1, z1⟩ := h
  have hz := B.1
  have hzz : gz g < 1000000 := by omega
  have h0 : isAg g 101 10 31 := ⟨by omega, B.2.1 101 (by omega)⟩
  repeat' (first
    | ((first | refine T_aload_n (pc1 := 163) (pc := 162) k_M_init_162 rfl rfl ?_ | refine T_aload_nN (pc1 := 163) (pc := 162) k_M_init_162 rfl rfl ?_) <;> try (refine T_bipush (v := (nI 96)) (pc1 := 165) (pc := 163) k_M_init_163 rfl (by decide) ?_ <;> try (refine T_newa (n := _) (pc1 := 167) (pc := 165) k_M_init_165 rfl (by decide) rfl (by decide) (by first | assumption | (simp only [gz_al, gz_p] at *; omega)) ?_ <;> try (refine T_putRF (pc1 := 170) (pc := 167) k_M_init_167 rfl f_M_67 rfl (by repeat' first | assumption | exact al_A | refine pR_A ?_ | refine aL_A ?_) (by first | exact Or.inl ⟨_, rfl⟩ | exact Or.inr ⟨_, rfl⟩) ⟨rfl, rfl⟩ ?_))))
    | refine T_bipush (v := (nI 96)) (pc1 := 165) (pc := 163) k_M_init_163 rfl (by decide) ?_
    | refine T_newa (n := _) (pc1 := 167) (pc := 165) k_M_init_165 rfl (by decide) rfl (by decide) (by first | assumption | (simp only [gz_al, gz_p] at *; omega)) ?_
    | refine T_putRF (pc1 := 170) (pc := 167) k_M_init_167 rfl f_M_67 rfl (by repeat' first | assumption | exact al_A | refine pR_A ?_ | refine aL_A ?_) (by first | exact Or.inl ⟨_, rfl⟩ | exact Or.inr ⟨_, rfl⟩) ⟨rfl, rfl⟩ ?_)
  refine kk _ _ ⟨Bm_ar (f := 25) (t := 100) (m := 96) B (by omega) (by omega) rfl rfl rfl (by decide), f1, ?_, by rw [hz]; exact MZ_al z1 (by omega) (by omega)⟩
  show gs g + 96 ≤ _
  omega
set_option maxRecDepth 100000 in
theorem Mi_117 (kk : ∀ g J, MS 118 G I g J → Rl 1 M_M_init 178 [some (.ref 101)] [] g J K) : ∀ g J, MS 117 G I g J → Rl 1 M_M_init 170 [some (.ref 101)] [] g J K := by
  intro g J h
  obtain ⟨B, f1, s1, z1⟩ := h
  have hz := B.1
  have hzz : gz g < 1000000 := by omega
  have h0 : isAg g 101 10 31 := ⟨by omega, B.2.1 101 (by omega)⟩
  repeat' (first
    | ((first | refine T_aload_n (pc1 := 171) (pc := 170) k_M_init_170 rfl rfl ?_ | refine T_aload_nN (pc1 := 171) (pc := 170) k_M_init_170 rfl rfl ?_) <;> try (refine T_bipush (v := (nI 24)) (pc1 := 173) (pc := 171) k_M_init_171 rfl (by decide) ?_ <;> try (refine T_newa (n := _) (pc1 := 175) (pc := 173) k_M_init_173 rfl (by decide) rfl (by decide) (by first | assumption | (simp only [gz_al, gz_p] at *; omega)) ?_ <;> try (refine T_putRF (pc1 := 178) (pc := 175) k_M_init_175 rfl f_M_70 rfl (by repeat' first | assumption | exact al_A | refine pR_A ?_ | refine aL_A ?_) (by first | exact Or.inl ⟨_, rfl⟩ | exact Or.inr ⟨_, rfl⟩) ⟨rfl, rfl⟩ ?_))))
    | refine T_bipush (v := (nI 24)) (pc1 := 173) (pc := 171) k_M_init_171 rfl (by decide) ?_
    | refine T_newa (n := _) (pc1 := 175) (pc := 173) k_M_init_173 rfl (by decide) rfl (by decide) (by first | assumption | (simp only [gz_al, gz_p] at *; omega)) ?_
    | refine T_putRF (pc1 := 178) (pc := 175) k_M_init_175 rfl f_M_70 rfl (by repeat' first | assumption | exact al_A | refine pR_A ?_ | refine aL_A ?_) (by first | exact Or.inl ⟨_, rfl⟩ | exact Or.inr ⟨_, rfl⟩) ⟨rfl, rfl⟩ ?_)
  refine kk _ _ ⟨Bm_ar (f := 26) (t := 100) (m := 24) B (by omega) (by omega) rfl rfl rfl (by decide), f1, ?_, by rw [hz]; exact MZ_al z1 (by omega) (by omega)⟩
  show gs g + 24 ≤ _
  omega
set_option maxRecDepth 100000 in
theorem Mi_118 (kk : ∀ g J, MS 119 G I g J → Rl 1 M_M_init 185 [some (.ref 101)] [] g J K) : ∀ g J, MS 118 G I g J → Rl 1 M_M_init 178 [some (.ref 101)] [] g J K := by
  intro g J h
  obtain ⟨B, f1, s1, z1⟩ := h
  have hz := B.1
  have hzz : gz g < 1000000 := by omega
  have h0 : isAg g 101 10 31 := ⟨by omega, B.2.1 101 (by omega)⟩
  repeat' (first
    | ((first | refine T_aload_n (pc1 := 179) (pc := 178) k_M_init_178 rfl rfl ?_ | refine T_aload_nN (pc1 := 179) (pc := 178) k_M_init_178 rfl rfl ?_) <;> try (refine T_iconst (v := (nI 5)) (pc1 := 180) (pc := 179) k_M_init_179 rfl (by decide) ?_ <;> try (refine T_newa (n := _) (pc1 := 182) (pc := 180) k_M_init_180 rfl (by decide) rfl (by decide) (by first | assumption | (simp only [gz_al, gz_p] at *; omega)) ?_ <;> try (refine T_putRF (pc1 := 185) (pc := 182) k_M_init_182 rfl f_M_73 rfl (by repeat' first | assumption | exact al_A | refine pR_A ?_ | refine aL_A ?_) (by first | exact Or.inl ⟨_, rfl⟩ | exact Or.inr ⟨_, rfl⟩) ⟨rfl, rfl⟩ ?_))))
    | refine T_iconst (v := (nI 5)) (pc1 := 180) (pc := 179) k_M_init_179 rfl (by decide) ?_
    | refine T_newa (n := _) (pc1 := 182) (pc := 180) k_M_init_180 rfl (by decide) rfl (by decide) (by first | assumption | (simp only [gz_al, gz_p] at *; omega)) ?_
    | refine T_putRF (pc1 := 185) (pc := 182) k_M_init_182 rfl f_M_73 rfl (by repeat' first | assumption | exact al_A | refine pR_A ?_ | refine aL_A ?_) (by first | exact Or.inl ⟨_, rfl⟩ | exact Or.inr ⟨_, rfl⟩) ⟨rfl, rfl⟩ ?_)
  refine kk _ _ ⟨Bm_ar (f := 27) (t := 100) (m := 5) B (by omega) (by omega) rfl rfl rfl (by decide), f1, ?_, by rw [hz]; exact MZ_al z1 (by omega) (by omega)⟩
  show gs g + 5 ≤ _
  omega
set_option maxRecDepth 100000 in
theorem Mi_119 (kk : ∀ g J, MS 120 G I g J → Rl 1 M_M_init 193 [some (.ref 101)] [] g J K) : ∀ g J, MS 119 G I g J → Rl 1 M_M_init 185 [some (.ref 101)] [] g J K := by
  intro g J h
  obtain ⟨B, f1, s1, z1⟩ := h
  have hz := B.1
  have hzz : gz g < 1000000 := by omega
  have h0 : isAg g 101 10 31 := ⟨by omega, B.2.1 101 (by omega)⟩
  repeat' (first
    | ((first | refine T_aload_n (pc1 := 186) (pc := 185) k_M_init_185 rfl rfl ?_ | refine T_aload_nN (pc1 := 186) (pc := 185) k_M_init_185 rfl rfl ?_) <;> try (refine T_bipush (v := (nI 125)) (pc1 := 188) (pc := 186) k_M_init_186 rfl (by decide) ?_ <;> try (refine T_newa (n := _) (pc1 := 190) (pc := 188) k_M_init_188 rfl (by decide) rfl (by decide) (by first | assumption | (simp only [gz_al, gz_p] at *; omega)) ?_ <;> try (refine T_putRF (pc1 := 193) (pc := 190) k_M_init_190 rfl f_M_76 rfl (by repeat' first | assumption | exact al_A | refine pR_A ?_ | refine aL_A ?_) (by first | exact Or.inl ⟨_, rfl⟩ | exact Or.inr ⟨_, rfl⟩) ⟨rfl, rfl⟩ ?_))))
    | refine T_bipush (v := (nI 125)) (pc1 := 188) (pc := 186) k_M_init_186 rfl (by decide) ?_
    | refine T_newa (n := _) (pc1 := 190) (pc := 188) k_M_init_188 rfl (by decide) rfl (by decide) (by first | assumption | (simp only [gz_al, gz_p] at *; omega)) ?_
    | refine T_putRF (pc1 := 193) (pc := 190) k_M_init_190 rfl f_M_76 rfl (by repeat' first | assumption | exact al_A | refine pR_A ?_ | refine aL_A ?_) (by first | exact Or.inl ⟨_, rfl⟩ | exact Or.inr ⟨_, rfl⟩) ⟨rfl, rfl⟩ ?_)
  refine kk _ _ ⟨Bm_ar (f := 28) (t := 100) (m := 125) B (by omega) (by omega) rfl rfl rfl (by decide), f1, ?_, by rw [hz]; exact MZ_al z1 (by omega) (by omega)⟩
  show gs g + 125 ≤ _
  omega
set_option maxRecDepth 100000 in
theorem Mi_120 (kk : ∀ g J, MS 121 G I g J → Rl 1 M_M_init 201 [some (.ref 101)] [] g J K) : ∀ g J, MS 120 G I g J → Rl 1 M_M_init 193 [some (.ref 101)] [] g J K := by
  intro g J h
  obtain ⟨B, f1, s1, z1⟩ := h
  have hz := B.1
  have hzz : gz g < 1000000 := by omega
  have h0 : isAg g 101 10 31 := ⟨by omega, B.2.1 101 (by omega)⟩
  repeat' (first
    | ((first | refine T_aload_n (pc1 := 194) (pc := 193) k_M_init_193 rfl rfl ?_ | refine T_aload_nN (pc1 := 194) (pc := 193) k_M_init_193 rfl rfl ?_) <;> try (refine T_bipush (v := (nI 60)) (pc1 := 196) (pc := 194) k_M_init_194 rfl (by decide) ?_ <;> try (refine T_newa (n := _) (pc1 := 198) (pc := 196) k_M_init_196 rfl (by decide) rfl (by decide) (by first | assumption | (simp only [gz_al, gz_p] at *; omega)) ?_ <;> try (refine T_putRF (pc1 := 201) (pc := 198) k_M_init_198 rfl f_M_79 rfl (by repeat' first | assumption | exact al_A | refine pR_A ?_ | refine aL_A ?_) (by first | exact Or.inl ⟨_, rfl⟩ | exact Or.inr ⟨_, rfl⟩) ⟨rfl, rfl⟩ ?_))))
    | refine T_bipush (v := (nI 60)) (pc1 := 196) (pc := 194) k_M_init_194 rfl (by decide) ?_
    | refine T_newa (n := _) (pc1 := 198) (pc := 196) k_M_init_196 rfl (by decide) rfl (by decide) (by first | assumption | (simp only [gz_al, gz_p] at *; omega)) ?_
    | refine T_putRF (pc1 := 201) (pc := 198) k_M_init_198 rfl f_M_79 rfl (by repeat' first | assumption | exact al_A | refine pR_A ?_ | refine aL_A ?_) (by first | exact Or.inl ⟨_, rfl⟩ | exact Or.inr ⟨_, rfl⟩) ⟨rfl, rfl⟩ ?_)
  refine kk _ _ ⟨Bm_ar (f := 29) (t := 100) (m := 60) B (by omega) (by omega) rfl rfl rfl (by decide), f1, ?_, by rw [hz]; exact MZ_al z1 (by omega) (by omega)⟩
  show gs g + 60 ≤ _
  omega
set_option maxRecDepth 100000 in
theorem c_M_init (h : Bu 101 G) (kk : ∀ g' J, Bm 121 g' → g'.1 = G.1 → gs g' ≤ gs G + 40000 → MZ 121 (va_up I 101 fun _ => 0) J → K none g' (pI (pI J 102 0 (nI 1)) 102 4 (nI 20))) : Cl 1 M_M_init [.ref 101] (galloc G 10 31) (va_up I 101 fun _ => 0) K := by
  show Rl 1 M_M_init 0 [some (.ref 101)] [] (galloc G 10 31) (va_up I 101 fun _ => 0) K
  have hzG := h.1
  have h0 : isAg (galloc G 10 31) 101 10 31 := by rw [← hzG]; exact al_A
  repeat' (first
    | ((first | refine T_aload_n (pc1 := 1) (pc := 0) k_M_init_0 rfl rfl ?_ | refine T_aload_nN (pc1 := 1) (pc := 0) k_M_init_0 rfl rfl ?_) <;> try (refine T_objInit (pc1 := 4) (pc := 1) k_M_init_1 rfl l_M_1 (by decide) (Nat.le_of_ble_eq_true rfl) ?_))
    | refine T_objInit (pc1 := 4) (pc := 1) k_M_init_1 rfl l_M_1 (by decide) (Nat.le_of_ble_eq_true rfl) ?_)
  have fin : ∀ g J, MS 121 (galloc G 10 31) (va_up I 101 fun _ => 0) g J → Rl 1 M_M_init 201 [some (.ref 101)] [] g J K := by
    intro g J hS
    obtain ⟨B, f1, s1, z1⟩ := hS
    have GG := Bm_ok B
    have h1 : isAg g 101 10 31 := ga GG (by decide) rfl
    have h2 : isAg g 102 100 1556 := ga GG (by decide) rfl
    have h3 : gR g 101 0 = some 102 := gr GG (by decide) rfl
    repeat' (first
      | ((first | refine T_aload_n (pc1 := 202) (pc := 201) k_M_init_201 rfl rfl ?_ | refine T_aload_nN (pc1 := 202) (pc := 201) k_M_init_201 rfl rfl ?_) <;> try (refine T_getR (pc1 := 205) (pc := 202) k_M_init_202 rfl f_M_9 rfl (by repeat' first | assumption | exact al_A | refine pR_A ?_ | refine aL_A ?_) (by first | assumption | rfl) ?_ <;> try (refine T_iconst (v := (nI 0)) (pc1 := 206) (pc := 205) k_M_init_205 rfl (by decide) ?_ <;> try (refine T_iconst (v := (nI 1)) (pc1 := 207) (pc := 206) k_M_init_206 rfl (by decide) ?_ <;> try (refine T_iastN (pc1 := 208) (pc := 207) k_M_init_207 rfl h2 (by decide) (by decide) ?_ <;> try ((first | refine T_aload_n (pc1 := 209) (pc := 208) k_M_init_208 rfl rfl ?_ | refine T_aload_nN (pc1 := 209) (pc := 208) k_M_init_208 rfl rfl ?_) <;> try (refine T_getR (pc1 := 212) (pc := 209) k_M_init_209 rfl f_M_9 rfl (by repeat' first | assumption | exact al_A | refine pR_A ?_ | refine aL_A ?_) (by first | assumption | rfl) ?_ <;> try (refine T_iconst (v := (nI 4)) (pc1 := 213) (pc := 212) k_M_init_212 rfl (by decide) ?_ <;> try (refine T_bipush (v := (nI 20)) (pc1 := 215) (pc := 213) k_M_init_213 rfl (by decide) ?_ <;> try (refine T_iastN (pc1 := 216) (pc := 215) k_M_init_215 rfl h2 (by decide) (by decide) ?_ <;> try (refine T_retV (pc := 216) k_M_init_216 rfl ?_)))))))))))
      | refine T_getR (pc1 := 205) (pc := 202) k_M_init_202 rfl f_M_9 rfl (by repeat' first | assumption | exact al_A | refine pR_A ?_ | refine aL_A ?_) (by first | assumption | rfl) ?_
      | refine T_iconst (v := (nI 0)) (pc1 := 206) (pc := 205) k_M_init_205 rfl (by decide) ?_
      | refine T_iconst (v := (nI 1)) (pc1 := 207) (pc := 206) k_M_init_206 rfl (by decide) ?_
      | refine T_iastN (pc1 := 208) (pc := 207) k_M_init_207 rfl h2 (by decide) (by decide) ?_
      | refine T_aload_n (pc1 := 209) (pc := 208) k_M_init_208 rfl rfl ?_
      | refine T_aload_nN (pc1 := 209) (pc := 208) k_M_init_208 rfl rfl ?_
      | refine T_getR (pc1 := 212) (pc := 209) k_M_init_209 rfl f_M_9 rfl (by repeat' first | assumption | exact al_A | refine pR_A ?_ | refine aL_A ?_) (by first | assumption | rfl) ?_
      | refine T_iconst (v := (nI 4)) (pc1 := 213) (pc := 212) k_M_init_212 rfl (by decide) ?_
      | refine T_bipush (v := (nI 20)) (pc1 := 215) (pc := 213) k_M_init_213 rfl (by decide) ?_
      | refine T_iastN (pc1 := 216) (pc := 215) k_M_init_215 rfl h2 (by decide) (by decide) ?_
      | refine T_retV (pc := 216) k_M_init_216 rfl ?_)
    exact kk g J B f1 (by rw [gs_al] at s1; omega) z1
  exact Mi_102 (Mi_103 (Mi_104 (Mi_105 (Mi_106 (Mi_107 (Mi_108 (Mi_109 (Mi_110 (Mi_111 (Mi_112 (Mi_113 (Mi_114 (Mi_115 (Mi_116 (Mi_117 (Mi_118 (Mi_119 (Mi_120 fin)))))))))))))))))) _ _ ⟨Bm_nw h, rfl, by omega, fun _ _ => rfl, fun i h2 h3 => by omega, fun h2 => by omega⟩
end I9
