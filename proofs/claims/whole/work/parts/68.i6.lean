/-! The constructor of the class: what lies between the lands and the loops. -/
section I6
variable {g : Geo} {I : IM} {K : Option Value → Geo → IM → Prop}
set_option maxRecDepth 100000 in
theorem Si2 (h : Bu 61 g) (kk : ∀ g' J, Bu 73 g' → g'.1 = g.1 → gs g' = gs g + 363 → J 0 10 = nI 0 → J 67 1 = nI 0 → J 0 2 = I 0 2 → (∀ i, 1 ≤ i → i < 61 → J i = I i) → Rl 3 M_S_init 106 [some (.ref 0), some (.int (nI 0))] [] g' J K) : Rl 3 M_S_init 42 [some (.ref 0), none] [] g I K := by
  have hz := h.1
  have hzz : gz g < 1000000 := by omega
  have h0 : isAg g 0 9 11 := ⟨by omega, h.2.1 0 (by omega)⟩
  repeat' (first
    | ((first | refine T_aload_n (pc1 := 43) (pc := 42) k_S_init_42 rfl rfl ?_ | refine T_aload_nN (pc1 := 43) (pc := 42) k_S_init_42 rfl rfl ?_) <;> try (refine T_new (pc1 := 46) (pc := 43) k_S_init_43 rfl w_S_26 (by first | assumption | (simp only [gz_al, gz_p] at *; omega)) ?_ <;> try (refine T_dup (pc1 := 47) (pc := 46) k_S_init_46 rfl rfl ?_ <;> try ((refine T_cJ (As := []) (d1 := 1) (pc1 := 50) (pc := 47) k_S_init_47 rfl (by decide) (Nat.le_of_ble_eq_true rfl) rfl o_Wa_init l_S_28 rfl (c_Wa_init al_A (by simp only [gz_al, gz_p]; omega) ?_) <;> try dsimp only [psh]) <;> try (refine T_putRF (pc1 := 53) (pc := 50) k_S_init_50 rfl f_S_29 rfl (by repeat' first | assumption | exact al_A | refine pR_A ?_ | refine aL_A ?_) (by first | exact Or.inl ⟨_, rfl⟩ | exact Or.inr ⟨_, rfl⟩) ⟨rfl, rfl⟩ ?_)))))
    | refine T_new (pc1 := 46) (pc := 43) k_S_init_43 rfl w_S_26 (by first | assumption | (simp only [gz_al, gz_p] at *; omega)) ?_
    | refine T_dup (pc1 := 47) (pc := 46) k_S_init_46 rfl rfl ?_
    | (refine T_cJ (As := []) (d1 := 1) (pc1 := 50) (pc := 47) k_S_init_47 rfl (by decide) (Nat.le_of_ble_eq_true rfl) rfl o_Wa_init l_S_28 rfl (c_Wa_init al_A (by simp only [gz_al, gz_p]; omega) ?_) <;> try dsimp only [psh])
    | refine T_putRF (pc1 := 53) (pc := 50) k_S_init_50 rfl f_S_29 rfl (by repeat' first | assumption | exact al_A | refine pR_A ?_ | refine aL_A ?_) (by first | exact Or.inl ⟨_, rfl⟩ | exact Or.inr ⟨_, rfl⟩) ⟨rfl, rfl⟩ ?_)
  have B1 := Bu_Wa h
  generalize eg1 : gpR (gpR (galloc (galloc g 7 6) 100 60) (gz g) 5 (some (gz g + 1))) 0 4 (some (gz g)) = g1 at B1
  have f1 : g1.1 = g.1 := by rw [← eg1]; rfl
  have s1 : gs g1 = gs g + 66 := by rw [← eg1]; simp only [gs_al, gs_p]
  have hz1 := B1.1
  have hzz1 : gz g1 < 1000000 := by omega
  have h01 : isAg g1 0 9 11 := ⟨by omega, B1.2.1 0 (by omega)⟩
  have e1 : ∀ J2 : IM, J2 = va_up (pI (pI (pI (pI (pI (va_up I (gz g) fun _ => 0) (gz g) 0 (nI 0)) (gz g) 1 (nI 0)) (gz g) 2 (nI 0)) (gz g) 3 (nI 0)) (gz g) 4 (nI 0)) (gz g + 1) (fun _ => 0) → ∀ i, i < 61 → J2 i = I i := fun J2 h2 i hi => by
    rw [h2]
    simp (disch := omega) only [pI_rw, va_up_ne, ne_eq]
  generalize eJ1 : va_up (pI (pI (pI (pI (pI (va_up I (gz g) fun _ => 0) (gz g) 0 (nI 0)) (gz g) 1 (nI 0)) (gz g) 2 (nI 0)) (gz g) 3 (nI 0)) (gz g) 4 (nI 0)) (gz g + 1) (fun _ => 0) = J1 at e1
  have e1 := e1 J1 rfl
  refine (show Rl 3 M_S_init 53 [some (.ref 0), none] [] (gpR (gpR (galloc (galloc g 7 6) 100 60) (gz g) 5 (some (gz g + 1))) 0 4 (some (gz g))) (va_up (pI (pI (pI (pI (pI (va_up I (gz g) fun _ => 0) (gz g) 0 (nI 0)) (gz g) 1 (nI 0)) (gz g) 2 (nI 0)) (gz g) 3 (nI 0)) (gz g) 4 (nI 0)) (gz g + 1) (fun _ => 0)) K from ?_)
  rw [eg1, eJ1]
  clear eg1 eJ1 h0
  repeat' (first
    | ((first | refine T_aload_n (pc1 := 54) (pc := 53) k_S_init_53 rfl rfl ?_ | refine T_aload_nN (pc1 := 54) (pc := 53) k_S_init_53 rfl rfl ?_) <;> try (refine T_new (pc1 := 57) (pc := 54) k_S_init_54 rfl w_S_33 (by first | assumption | (simp only [gz_al, gz_p] at *; omega)) ?_ <;> try (refine T_dup (pc1 := 58) (pc := 57) k_S_init_57 rfl rfl ?_ <;> try ((refine T_cJ (As := []) (d1 := 1) (pc1 := 61) (pc := 58) k_S_init_58 rfl (by decide) (Nat.le_of_ble_eq_true rfl) rfl o_Wr_init l_S_35 rfl (c_Wr_init al_A (by simp only [gz_al, gz_p]; omega) ?_) <;> try dsimp only [psh]) <;> try (refine T_putRF (pc1 := 64) (pc := 61) k_S_init_61 rfl f_S_36 rfl (by repeat' first | assumption | exact al_A | refine pR_A ?_ | refine aL_A ?_) (by first | exact Or.inl ⟨_, rfl⟩ | exact Or.inr ⟨_, rfl⟩) ⟨rfl, rfl⟩ ?_)))))
    | refine T_new (pc1 := 57) (pc := 54) k_S_init_54 rfl w_S_33 (by first | assumption | (simp only [gz_al, gz_p] at *; omega)) ?_
    | refine T_dup (pc1 := 58) (pc := 57) k_S_init_57 rfl rfl ?_
    | (refine T_cJ (As := []) (d1 := 1) (pc1 := 61) (pc := 58) k_S_init_58 rfl (by decide) (Nat.le_of_ble_eq_true rfl) rfl o_Wr_init l_S_35 rfl (c_Wr_init al_A (by simp only [gz_al, gz_p]; omega) ?_) <;> try dsimp only [psh])
    | refine T_putRF (pc1 := 64) (pc := 61) k_S_init_61 rfl f_S_36 rfl (by repeat' first | assumption | exact al_A | refine pR_A ?_ | refine aL_A ?_) (by first | exact Or.inl ⟨_, rfl⟩ | exact Or.inr ⟨_, rfl⟩) ⟨rfl, rfl⟩ ?_)
  have B2 := Bu_Wr B1
  generalize eg2 : gpR (gpR (galloc (gpR (galloc (galloc g1 8 2) 100 14) (gz g1) 0 (some (gz g1 + 1))) 100 8) (gz g1) 1 (some (gz g1 + 2))) 0 5 (some (gz g1)) = g2 at B2
  have f2 : g2.1 = g.1 := by rw [← eg2]; exact f1
  have s2 : gs g2 = gs g + 90 := by rw [← eg2]; simp only [gs_al, gs_p]; omega
  have hz2 := B2.1
  have hzz2 : gz g2 < 1000000 := by omega
  have h02 : isAg g2 0 9 11 := ⟨by omega, B2.2.1 0 (by omega)⟩
  have e2 : ∀ i, i < 61 → va_up (va_up (va_up J1 (gz g1) fun _ => 0) (gz g1 + 1) fun _ => 0) (gz g1 + 2) (fun _ => 0) i = I i := fun i hi => by
    rw [va_up_ne _ _ (by omega), va_up_ne _ _ (by omega), va_up_ne _ _ (by omega)]
    exact e1 i hi
  refine (show Rl 3 M_S_init 64 [some (.ref 0), none] [] (gpR (gpR (galloc (gpR (galloc (galloc g1 8 2) 100 14) (gz g1) 0 (some (gz g1 + 1))) 100 8) (gz g1) 1 (some (gz g1 + 2))) 0 5 (some (gz g1))) (va_up (va_up (va_up J1 (gz g1) fun _ => 0) (gz g1 + 1) fun _ => 0) (gz g1 + 2) (fun _ => 0)) K from ?_)
  rw [eg2]
  generalize va_up (va_up (va_up J1 (gz g1) fun _ => 0) (gz g1 + 1) fun _ => 0) (gz g1 + 2) (fun _ => 0) = J2 at e2 ⊢
  clear eg2 h01 e1 s1 f1 B1
  first | refine T_aload_n (pc1 := 65) (pc := 64) k_S_init_64 rfl rfl ?_ | refine T_aload_nN (pc1 := 65) (pc := 64) k_S_init_64 rfl rfl ?_
  refine T_new (pc1 := 68) (pc := 65) k_S_init_65 rfl w_S_40 (by first | assumption | (simp only [gz_al, gz_p] at *; omega)) ?_
  refine T_dup (pc1 := 69) (pc := 68) k_S_init_68 rfl rfl ?_
  (refine T_cJ (As := []) (d1 := 2) (pc1 := 72) (pc := 69) k_S_init_69 rfl (by decide) (Nat.le_of_ble_eq_true rfl) rfl o_Re_init l_S_42 rfl (c_Re_init al_A (by simp only [gz_al, gz_p]; omega) ?_) <;> try dsimp only [psh])
  have b3 : isAg (reG (galloc g2 2 10) (gz g2)) 0 9 11 := by
    unfold reG
    exact pR_A (aL_A (pR_A (pR_A (aL_A (aL_A (aL_A h02))))))
  refine T_putRF (pc1 := 75) (pc := 72) k_S_init_72 rfl f_S_43 rfl (by repeat' first | assumption | exact al_A | refine pR_A ?_ | refine aL_A ?_) (by first | exact Or.inl ⟨_, rfl⟩ | exact Or.inr ⟨_, rfl⟩) ⟨rfl, rfl⟩ ?_
  have B3 := Bu_Re B2
  have f3 : (gpR (reG (galloc g2 2 10) (gz g2)) 0 6 (some (gz g2))).1 = g.1 := f2
  have s3 : gs (gpR (reG (galloc g2 2 10) (gz g2)) 0 6 (some (gz g2))) = gs g + 294 := by unfold reG; simp only [gs_al, gs_p]; omega
  have e3 : (∀ i, i < 61 → reI (va_up J2 (gz g2) fun _ => 0) (gz (galloc g2 2 10)) (gz g2) i = I i) ∧ reI (va_up J2 (gz g2) fun _ => 0) (gz (galloc g2 2 10)) (gz g2) 67 1 = nI 0 := by
    rw [gz_al, hz2]
    unfold reI
    refine ⟨fun i hi => ?_, ?_⟩
    · simp (disch := omega) only [pI_rw, va_up_ne, ne_eq]
      exact e2 i hi
    · simp (disch := omega) only [pI_eq, pI_col, pI_row, va_here, va_up_ne, ne_eq]
  generalize gpR (reG (galloc g2 2 10) (gz g2)) 0 6 (some (gz g2)) = g3 at B3 f3 s3 ⊢
  generalize reI (va_up J2 (gz g2) fun _ => 0) (gz (galloc g2 2 10)) (gz g2) = J3 at e3 ⊢
  clear b3 h02 s2 f2 B2 e2
  have hz3 := B3.1
  have hzz3 : gz g3 < 1000000 := by omega
  have h03 : isAg g3 0 9 11 := ⟨by omega, B3.2.1 0 (by omega)⟩
  repeat' (first
    | ((first | refine T_aload_n (pc1 := 76) (pc := 75) k_S_init_75 rfl rfl ?_ | refine T_aload_nN (pc1 := 76) (pc := 75) k_S_init_75 rfl rfl ?_) <;> try (refine T_iconst (v := (nI 4)) (pc1 := 77) (pc := 76) k_S_init_76 rfl (by decide) ?_ <;> try (refine T_anew (n := _) (e0 := 2) (pc1 := 80) (pc := 77) k_S_init_77 rfl rfl n_S_47 (by decide) rfl (by decide) (by first | assumption | (simp only [gz_al, gz_p] at *; omega)) ?_ <;> try (refine T_putRF (pc1 := 83) (pc := 80) k_S_init_80 rfl f_S_49 rfl (by repeat' first | assumption | exact al_A | refine pR_A ?_ | refine aL_A ?_) (by first | exact Or.inl ⟨_, rfl⟩ | exact Or.inr ⟨_, rfl⟩) ⟨rfl, rfl⟩ ?_ <;> try ((first | refine T_aload_n (pc1 := 84) (pc := 83) k_S_init_83 rfl rfl ?_ | refine T_aload_nN (pc1 := 84) (pc := 83) k_S_init_83 rfl rfl ?_) <;> try (refine T_iconst (v := (nI 5)) (pc1 := 85) (pc := 84) k_S_init_84 rfl (by decide) ?_ <;> try (refine T_anew (n := _) (e0 := 3) (pc1 := 88) (pc := 85) k_S_init_85 rfl rfl n_S_53 (by decide) rfl (by decide) (by first | assumption | (simp only [gz_al, gz_p] at *; omega)) ?_ <;> try (refine T_putRF (pc1 := 91) (pc := 88) k_S_init_88 rfl f_S_55 rfl (by repeat' first | assumption | exact al_A | refine pR_A ?_ | refine aL_A ?_) (by first | exact Or.inl ⟨_, rfl⟩ | exact Or.inr ⟨_, rfl⟩) ⟨rfl, rfl⟩ ?_ <;> try ((first | refine T_aload_n (pc1 := 92) (pc := 91) k_S_init_91 rfl rfl ?_ | refine T_aload_nN (pc1 := 92) (pc := 91) k_S_init_91 rfl rfl ?_) <;> try (refine T_bipush (v := (nI 60)) (pc1 := 94) (pc := 92) k_S_init_92 rfl (by decide) ?_ <;> try (refine T_newa (n := _) (pc1 := 96) (pc := 94) k_S_init_94 rfl (by decide) rfl (by decide) (by first | assumption | (simp only [gz_al, gz_p] at *; omega)) ?_ <;> try (refine T_putRF (pc1 := 99) (pc := 96) k_S_init_96 rfl f_S_59 rfl (by repeat' first | assumption | exact al_A | refine pR_A ?_ | refine aL_A ?_) (by first | exact Or.inl ⟨_, rfl⟩ | exact Or.inr ⟨_, rfl⟩) ⟨rfl, rfl⟩ ?_ <;> try ((first | refine T_aload_n (pc1 := 100) (pc := 99) k_S_init_99 rfl rfl ?_ | refine T_aload_nN (pc1 := 100) (pc := 99) k_S_init_99 rfl rfl ?_) <;> try (refine T_iconst (v := (nI 0)) (pc1 := 101) (pc := 100) k_S_init_100 rfl (by decide) ?_))))))))))))))
    | (refine T_putI (pc1 := 104) (pc := 101) k_S_init_101 rfl f_S_63 rfl (by repeat' first | assumption | exact al_A | refine pR_A ?_ | refine aL_A ?_) (by first | rfl | decide | assumption) (by first | rfl | decide | assumption) ?_ <;> try (refine T_iconst (v := (nI 0)) (pc1 := 105) (pc := 104) k_S_init_104 rfl (by decide) ?_ <;> try (refine T_istore_n (pc1 := 106) (pc := 105) k_S_init_105 rfl (Nat.le_of_ble_eq_true rfl) ?_)))
    | refine T_iconst (v := (nI 4)) (pc1 := 77) (pc := 76) k_S_init_76 rfl (by decide) ?_
    | refine T_anew (n := _) (e0 := 2) (pc1 := 80) (pc := 77) k_S_init_77 rfl rfl n_S_47 (by decide) rfl (by decide) (by first | assumption | (simp only [gz_al, gz_p] at *; omega)) ?_
    | refine T_putRF (pc1 := 83) (pc := 80) k_S_init_80 rfl f_S_49 rfl (by repeat' first | assumption | exact al_A | refine pR_A ?_ | refine aL_A ?_) (by first | exact Or.inl ⟨_, rfl⟩ | exact Or.inr ⟨_, rfl⟩) ⟨rfl, rfl⟩ ?_
    | refine T_aload_n (pc1 := 84) (pc := 83) k_S_init_83 rfl rfl ?_
    | refine T_aload_nN (pc1 := 84) (pc := 83) k_S_init_83 rfl rfl ?_
    | refine T_iconst (v := (nI 5)) (pc1 := 85) (pc := 84) k_S_init_84 rfl (by decide) ?_
    | refine T_anew (n := _) (e0 := 3) (pc1 := 88) (pc := 85) k_S_init_85 rfl rfl n_S_53 (by decide) rfl (by decide) (by first | assumption | (simp only [gz_al, gz_p] at *; omega)) ?_
    | refine T_putRF (pc1 := 91) (pc := 88) k_S_init_88 rfl f_S_55 rfl (by repeat' first | assumption | exact al_A | refine pR_A ?_ | refine aL_A ?_) (by first | exact Or.inl ⟨_, rfl⟩ | exact Or.inr ⟨_, rfl⟩) ⟨rfl, rfl⟩ ?_
    | refine T_aload_n (pc1 := 92) (pc := 91) k_S_init_91 rfl rfl ?_
    | refine T_aload_nN (pc1 := 92) (pc := 91) k_S_init_91 rfl rfl ?_
    | refine T_bipush (v := (nI 60)) (pc1 := 94) (pc := 92) k_S_init_92 rfl (by decide) ?_
    | refine T_newa (n := _) (pc1 := 96) (pc := 94) k_S_init_94 rfl (by decide) rfl (by decide) (by first | assumption | (simp only [gz_al, gz_p] at *; omega)) ?_
    | refine T_putRF (pc1 := 99) (pc := 96) k_S_init_96 rfl f_S_59 rfl (by repeat' first | assumption | exact al_A | refine pR_A ?_ | refine aL_A ?_) (by first | exact Or.inl ⟨_, rfl⟩ | exact Or.inr ⟨_, rfl⟩) ⟨rfl, rfl⟩ ?_
    | refine T_aload_n (pc1 := 100) (pc := 99) k_S_init_99 rfl rfl ?_
    | refine T_aload_nN (pc1 := 100) (pc := 99) k_S_init_99 rfl rfl ?_
    | refine T_iconst (v := (nI 0)) (pc1 := 101) (pc := 100) k_S_init_100 rfl (by decide) ?_
    | refine T_iconst (v := (nI 0)) (pc1 := 105) (pc := 104) k_S_init_104 rfl (by decide) ?_
    | refine T_istore_n (pc1 := 106) (pc := 105) k_S_init_105 rfl (Nat.le_of_ble_eq_true rfl) ?_)
  have B4 := Bu_ar (f := 7) (t := 103) (m := 4) B3 (by omega) (by omega) rfl rfl (by decide)
  have B5 := Bu_ar (f := 8) (t := 104) (m := 5) B4 (by omega) (by omega) rfl rfl (by decide)
  have B6 := Bu_ar (f := 9) (t := 100) (m := 60) B5 (by omega) (by omega) rfl rfl (by decide)
  refine kk _ _ B6 f3 ?_ ?_ ?_ ?_ ?_
  · show gs g3 + 4 + 5 + 60 = _
    omega
  · rw [pI_eq]
  · simp only [gz_al, gz_p, hz3]
    simp (disch := omega) only [pI_eq, pI_col, pI_row, va_here, va_up_ne, ne_eq]
    exact e3.2
  · simp only [gz_al, gz_p, hz3]
    simp (disch := omega) only [pI_eq, pI_col, pI_row, va_here, va_up_ne, ne_eq]
    rw [e3.1 0 (by omega)]
  · intro i h1 h2
    simp only [gz_al, gz_p, hz3]
    simp (disch := omega) only [pI_rw, va_up_ne, ne_eq]
    exact e3.1 i h2
end I6
