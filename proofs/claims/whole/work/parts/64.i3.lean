/-! The constructors: the reader and a slot. -/
section I3
variable {g : Geo} {I : IM} {K : Option Value → Geo → IM → Prop}
def reG (g : Geo) (i : Nat) : Geo := gpR (galloc (gpR (gpR (galloc (galloc g 5 2) 100 96) (gz g) 0 (some (gz g + 1))) i 0 (some (gz g))) 100 96) i 5 (some (gz g + 2))
def reI (I : IM) (z i : Nat) : IM := pI (pI (pI (pI (va_up (pI (pI (pI (pI (pI (va_up (va_up I z (fun _ => 0)) (z + 1) (fun _ => 0)) z 1 (nI 0)) i 1 (nI 0)) i 2 (nI 0)) i 3 (nI 0)) i 4 (nI 0)) (z + 2) (fun _ => 0)) i 6 (nI 0)) i 7 (nI 0)) i 8 (nI 0)) i 9 (nI 0)
theorem c_Re_init {i : Nat} (ha : isAg g i 2 10) (hz : gz g < 900) (kk : K none (reG g i) (reI I (gz g) i)) : Cl 2 M_Re_init [.ref i] g I K := by
  show Rl 2 M_Re_init 0 [some (.ref i)] [] g I K
  have hzz : gz g < 1000000 := by omega
  repeat' (first
    | ((first | refine T_aload_n (pc1 := 1) (pc := 0) k_Re_init_0 rfl rfl ?_ | refine T_aload_nN (pc1 := 1) (pc := 0) k_Re_init_0 rfl rfl ?_) <;> try (refine T_objInit (pc1 := 4) (pc := 1) k_Re_init_1 rfl l_Re_3 (by decide) (Nat.le_of_ble_eq_true rfl) ?_ <;> try ((first | refine T_aload_n (pc1 := 5) (pc := 4) k_Re_init_4 rfl rfl ?_ | refine T_aload_nN (pc1 := 5) (pc := 4) k_Re_init_4 rfl rfl ?_) <;> try (refine T_new (pc1 := 8) (pc := 5) k_Re_init_5 rfl w_Re_9 (by first | assumption | (simp only [gz_al, gz_p] at *; omega)) ?_ <;> try (refine T_dup (pc1 := 9) (pc := 8) k_Re_init_8 rfl rfl ?_ <;> try ((refine T_cJ (As := []) (d1 := 1) (pc1 := 12) (pc := 9) k_Re_init_9 rfl (by decide) (Nat.le_of_ble_eq_true rfl) rfl o_Ta_init l_Re_11 rfl (c_Ta_init al_A (by simp only [gz_al, gz_p]; omega) ?_) <;> try dsimp only [psh]) <;> try (refine T_putRF (pc1 := 15) (pc := 12) k_Re_init_12 rfl f_Re_12 rfl (by repeat' first | assumption | exact al_A | refine pR_A ?_ | refine aL_A ?_) (by first | exact Or.inl ⟨_, rfl⟩ | exact Or.inr ⟨_, rfl⟩) ⟨rfl, rfl⟩ ?_ <;> try ((first | refine T_aload_n (pc1 := 16) (pc := 15) k_Re_init_15 rfl rfl ?_ | refine T_aload_nN (pc1 := 16) (pc := 15) k_Re_init_15 rfl rfl ?_) <;> try (refine T_iconst (v := (nI 0)) (pc1 := 17) (pc := 16) k_Re_init_16 rfl (by decide) ?_ <;> try (refine T_putI (pc1 := 20) (pc := 17) k_Re_init_17 rfl f_Re_18 rfl (by repeat' first | assumption | exact al_A | refine pR_A ?_ | refine aL_A ?_) (by first | rfl | decide | assumption) (by first | rfl | decide | assumption) ?_ <;> try ((first | refine T_aload_n (pc1 := 21) (pc := 20) k_Re_init_20 rfl rfl ?_ | refine T_aload_nN (pc1 := 21) (pc := 20) k_Re_init_20 rfl rfl ?_) <;> try (refine T_iconst (v := (nI 0)) (pc1 := 22) (pc := 21) k_Re_init_21 rfl (by decide) ?_ <;> try (refine T_putI (pc1 := 25) (pc := 22) k_Re_init_22 rfl f_Re_22 rfl (by repeat' first | assumption | exact al_A | refine pR_A ?_ | refine aL_A ?_) (by first | rfl | decide | assumption) (by first | rfl | decide | assumption) ?_ <;> try ((first | refine T_aload_n (pc1 := 26) (pc := 25) k_Re_init_25 rfl rfl ?_ | refine T_aload_nN (pc1 := 26) (pc := 25) k_Re_init_25 rfl rfl ?_)))))))))))))))
    | (refine T_iconst (v := (nI 0)) (pc1 := 27) (pc := 26) k_Re_init_26 rfl (by decide) ?_ <;> try (refine T_putI (pc1 := 30) (pc := 27) k_Re_init_27 rfl f_Re_25 rfl (by repeat' first | assumption | exact al_A | refine pR_A ?_ | refine aL_A ?_) (by first | rfl | decide | assumption) (by first | rfl | decide | assumption) ?_ <;> try ((first | refine T_aload_n (pc1 := 31) (pc := 30) k_Re_init_30 rfl rfl ?_ | refine T_aload_nN (pc1 := 31) (pc := 30) k_Re_init_30 rfl rfl ?_) <;> try (refine T_iconst (v := (nI 0)) (pc1 := 32) (pc := 31) k_Re_init_31 rfl (by decide) ?_ <;> try (refine T_putI (pc1 := 35) (pc := 32) k_Re_init_32 rfl f_Re_28 rfl (by repeat' first | assumption | exact al_A | refine pR_A ?_ | refine aL_A ?_) (by first | rfl | decide | assumption) (by first | rfl | decide | assumption) ?_ <;> try ((first | refine T_aload_n (pc1 := 36) (pc := 35) k_Re_init_35 rfl rfl ?_ | refine T_aload_nN (pc1 := 36) (pc := 35) k_Re_init_35 rfl rfl ?_) <;> try (refine T_bipush (v := (nI 96)) (pc1 := 38) (pc := 36) k_Re_init_36 rfl (by decide) ?_ <;> try (refine T_newa (n := _) (pc1 := 40) (pc := 38) k_Re_init_38 rfl (by decide) rfl (by decide) (by first | assumption | (simp only [gz_al, gz_p] at *; omega)) ?_ <;> try (refine T_putRF (pc1 := 43) (pc := 40) k_Re_init_40 rfl f_Re_31 rfl (by repeat' first | assumption | exact al_A | refine pR_A ?_ | refine aL_A ?_) (by first | exact Or.inl ⟨_, rfl⟩ | exact Or.inr ⟨_, rfl⟩) ⟨rfl, rfl⟩ ?_ <;> try ((first | refine T_aload_n (pc1 := 44) (pc := 43) k_Re_init_43 rfl rfl ?_ | refine T_aload_nN (pc1 := 44) (pc := 43) k_Re_init_43 rfl rfl ?_) <;> try (refine T_iconst (v := (nI 0)) (pc1 := 45) (pc := 44) k_Re_init_44 rfl (by decide) ?_ <;> try (refine T_putI (pc1 := 48) (pc := 45) k_Re_init_45 rfl f_Re_35 rfl (by repeat' first | assumption | exact al_A | refine pR_A ?_ | refine aL_A ?_) (by first | rfl | decide | assumption) (by first | rfl | decide | assumption) ?_ <;> try ((first | refine T_aload_n (pc1 := 49) (pc := 48) k_Re_init_48 rfl rfl ?_ | refine T_aload_nN (pc1 := 49) (pc := 48) k_Re_init_48 rfl rfl ?_) <;> try (refine T_iconst (v := (nI 0)) (pc1 := 50) (pc := 49) k_Re_init_49 rfl (by decide) ?_))))))))))))))
    | (refine T_putI (pc1 := 53) (pc := 50) k_Re_init_50 rfl f_Re_38 rfl (by repeat' first | assumption | exact al_A | refine pR_A ?_ | refine aL_A ?_) (by first | rfl | decide | assumption) (by first | rfl | decide | assumption) ?_ <;> try ((first | refine T_aload_n (pc1 := 54) (pc := 53) k_Re_init_53 rfl rfl ?_ | refine T_aload_nN (pc1 := 54) (pc := 53) k_Re_init_53 rfl rfl ?_) <;> try (refine T_iconst (v := (nI 0)) (pc1 := 55) (pc := 54) k_Re_init_54 rfl (by decide) ?_ <;> try (refine T_putI (pc1 := 58) (pc := 55) k_Re_init_55 rfl f_Re_41 rfl (by repeat' first | assumption | exact al_A | refine pR_A ?_ | refine aL_A ?_) (by first | rfl | decide | assumption) (by first | rfl | decide | assumption) ?_ <;> try ((first | refine T_aload_n (pc1 := 59) (pc := 58) k_Re_init_58 rfl rfl ?_ | refine T_aload_nN (pc1 := 59) (pc := 58) k_Re_init_58 rfl rfl ?_) <;> try (refine T_iconst (v := (nI 0)) (pc1 := 60) (pc := 59) k_Re_init_59 rfl (by decide) ?_ <;> try (refine T_putI (pc1 := 63) (pc := 60) k_Re_init_60 rfl f_Re_44 rfl (by repeat' first | assumption | exact al_A | refine pR_A ?_ | refine aL_A ?_) (by first | rfl | decide | assumption) (by first | rfl | decide | assumption) ?_ <;> try (refine T_retV (pc := 63) k_Re_init_63 rfl ?_))))))))
    | refine T_objInit (pc1 := 4) (pc := 1) k_Re_init_1 rfl l_Re_3 (by decide) (Nat.le_of_ble_eq_true rfl) ?_
    | refine T_aload_n (pc1 := 5) (pc := 4) k_Re_init_4 rfl rfl ?_
    | refine T_aload_nN (pc1 := 5) (pc := 4) k_Re_init_4 rfl rfl ?_
    | refine T_new (pc1 := 8) (pc := 5) k_Re_init_5 rfl w_Re_9 (by first | assumption | (simp only [gz_al, gz_p] at *; omega)) ?_
    | refine T_dup (pc1 := 9) (pc := 8) k_Re_init_8 rfl rfl ?_
    | (refine T_cJ (As := []) (d1 := 1) (pc1 := 12) (pc := 9) k_Re_init_9 rfl (by decide) (Nat.le_of_ble_eq_true rfl) rfl o_Ta_init l_Re_11 rfl (c_Ta_init al_A (by simp only [gz_al, gz_p]; omega) ?_) <;> try dsimp only [psh])
    | refine T_putRF (pc1 := 15) (pc := 12) k_Re_init_12 rfl f_Re_12 rfl (by repeat' first | assumption | exact al_A | refine pR_A ?_ | refine aL_A ?_) (by first | exact Or.inl ⟨_, rfl⟩ | exact Or.inr ⟨_, rfl⟩) ⟨rfl, rfl⟩ ?_
    | refine T_aload_n (pc1 := 16) (pc := 15) k_Re_init_15 rfl rfl ?_
    | refine T_aload_nN (pc1 := 16) (pc := 15) k_Re_init_15 rfl rfl ?_
    | refine T_iconst (v := (nI 0)) (pc1 := 17) (pc := 16) k_Re_init_16 rfl (by decide) ?_
    | refine T_putI (pc1 := 20) (pc := 17) k_Re_init_17 rfl f_Re_18 rfl (by repeat' first | assumption | exact al_A | refine pR_A ?_ | refine aL_A ?_) (by first | rfl | decide | assumption) (by first | rfl | decide | assumption) ?_
    | refine T_aload_n (pc1 := 21) (pc := 20) k_Re_init_20 rfl rfl ?_
    | refine T_aload_nN (pc1 := 21) (pc := 20) k_Re_init_20 rfl rfl ?_
    | refine T_iconst (v := (nI 0)) (pc1 := 22) (pc := 21) k_Re_init_21 rfl (by decide) ?_
    | refine T_putI (pc1 := 25) (pc := 22) k_Re_init_22 rfl f_Re_22 rfl (by repeat' first | assumption | exact al_A | refine pR_A ?_ | refine aL_A ?_) (by first | rfl | decide | assumption) (by first | rfl | decide | assumption) ?_
    | refine T_aload_n (pc1 := 26) (pc := 25) k_Re_init_25 rfl rfl ?_
    | refine T_aload_nN (pc1 := 26) (pc := 25) k_Re_init_25 rfl rfl ?_
    | refine T_putI (pc1 := 30) (pc := 27) k_Re_init_27 rfl f_Re_25 rfl (by repeat' first | assumption | exact al_A | refine pR_A ?_ | refine aL_A ?_) (by first | rfl | decide | assumption) (by first | rfl | decide | assumption) ?_
    | refine T_aload_n (pc1 := 31) (pc := 30) k_Re_init_30 rfl rfl ?_
    | refine T_aload_nN (pc1 := 31) (pc := 30) k_Re_init_30 rfl rfl ?_
    | refine T_iconst (v := (nI 0)) (pc1 := 32) (pc := 31) k_Re_init_31 rfl (by decide) ?_
    | refine T_putI (pc1 := 35) (pc := 32) k_Re_init_32 rfl f_Re_28 rfl (by repeat' first | assumption | exact al_A | refine pR_A ?_ | refine aL_A ?_) (by first | rfl | decide | assumption) (by first | rfl | decide | assumption) ?_
    | refine T_aload_n (pc1 := 36) (pc := 35) k_Re_init_35 rfl rfl ?_
    | refine T_aload_nN (pc1 := 36) (pc := 35) k_Re_init_35 rfl rfl ?_
    | refine T_bipush (v := (nI 96)) (pc1 := 38) (pc := 36) k_Re_init_36 rfl (by decide) ?_
    | refine T_newa (n := _) (pc1 := 40) (pc := 38) k_Re_init_38 rfl (by decide) rfl (by decide) (by first | assumption | (simp only [gz_al, gz_p] at *; omega)) ?_
    | refine T_putRF (pc1 := 43) (pc := 40) k_Re_init_40 rfl f_Re_31 rfl (by repeat' first | assumption | exact al_A | refine pR_A ?_ | refine aL_A ?_) (by first | exact Or.inl ⟨_, rfl⟩ | exact Or.inr ⟨_, rfl⟩) ⟨rfl, rfl⟩ ?_
    | refine T_aload_n (pc1 := 44) (pc := 43) k_Re_init_43 rfl rfl ?_
    | refine T_aload_nN (pc1 := 44) (pc := 43) k_Re_init_43 rfl rfl ?_
    | refine T_iconst (v := (nI 0)) (pc1 := 45) (pc := 44) k_Re_init_44 rfl (by decide) ?_
    | refine T_putI (pc1 := 48) (pc := 45) k_Re_init_45 rfl f_Re_35 rfl (by repeat' first | assumption | exact al_A | refine pR_A ?_ | refine aL_A ?_) (by first | rfl | decide | assumption) (by first | rfl | decide | assumption) ?_
    | refine T_aload_n (pc1 := 49) (pc := 48) k_Re_init_48 rfl rfl ?_
    | refine T_aload_nN (pc1 := 49) (pc := 48) k_Re_init_48 rfl rfl ?_
    | refine T_iconst (v := (nI 0)) (pc1 := 50) (pc := 49) k_Re_init_49 rfl (by decide) ?_
    | refine T_aload_n (pc1 := 54) (pc := 53) k_Re_init_53 rfl rfl ?_
    | refine T_aload_nN (pc1 := 54) (pc := 53) k_Re_init_53 rfl rfl ?_
    | refine T_iconst (v := (nI 0)) (pc1 := 55) (pc := 54) k_Re_init_54 rfl (by decide) ?_
    | refine T_putI (pc1 := 58) (pc := 55) k_Re_init_55 rfl f_Re_41 rfl (by repeat' first | assumption | exact al_A | refine pR_A ?_ | refine aL_A ?_) (by first | rfl | decide | assumption) (by first | rfl | decide | assumption) ?_
    | refine T_aload_n (pc1 := 59) (pc := 58) k_Re_init_58 rfl rfl ?_
    | refine T_aload_nN (pc1 := 59) (pc := 58) k_Re_init_58 rfl rfl ?_
    | refine T_iconst (v := (nI 0)) (pc1 := 60) (pc := 59) k_Re_init_59 rfl (by decide) ?_
    | refine T_putI (pc1 := 63) (pc := 60) k_Re_init_60 rfl f_Re_44 rfl (by repeat' first | assumption | exact al_A | refine pR_A ?_ | refine aL_A ?_) (by first | rfl | decide | assumption) (by first | rfl | decide | assumption) ?_
    | refine T_retV (pc := 63) k_Re_init_63 rfl ?_)
  exact kk
def slG (g : Geo) (i : Nat) : Geo := gpR (gpR (galloc (galloc (gpR (galloc g 0 6) i 1 (some (gz g))) 3 3) 100 24) (gz g + 1) 2 (some (gz g + 2))) i 2 (some (gz g + 1))
def slI (I : IM) (z i : Nat) : IM := pI (va_up (pI (pI (va_up (pI (pI (pI (pI (pI (pI (va_up (pI I i 0 (nI 0)) z (fun _ => 0)) z 0 (nI 0)) z 1 (nI 0)) z 2 (nI 0)) z 3 (nI 0)) z 4 (nI 0)) z 5 cNONE) (z + 1) (fun _ => 0)) (z + 1) 0 (-1)) (z + 1) 1 (nI 0)) (z + 2) (fun _ => 0)) i 3 (nI 0)
theorem c_Sl_init {i : Nat} (ha : isAg g i 4 4) (hz : gz g < 900) (kk : K none (slG g i) (slI I (gz g) i)) : Cl 2 M_Sl_init [.ref i] g I K := by
  show Rl 2 M_Sl_init 0 [some (.ref i)] [] g I K
  have hzz : gz g < 1000000 := by omega
  repeat' (first
    | ((first | refine T_aload_n (pc1 := 1) (pc := 0) k_Sl_init_0 rfl rfl ?_ | refine T_aload_nN (pc1 := 1) (pc := 0) k_Sl_init_0 rfl rfl ?_) <;> try (refine T_objInit (pc1 := 4) (pc := 1) k_Sl_init_1 rfl l_Sl_3 (by decide) (Nat.le_of_ble_eq_true rfl) ?_ <;> try ((first | refine T_aload_n (pc1 := 5) (pc := 4) k_Sl_init_4 rfl rfl ?_ | refine T_aload_nN (pc1 := 5) (pc := 4) k_Sl_init_4 rfl rfl ?_) <;> try (refine T_iconst (v := (nI 0)) (pc1 := 6) (pc := 5) k_Sl_init_5 rfl (by decide) ?_ <;> try (refine T_putI (pc1 := 9) (pc := 6) k_Sl_init_6 rfl f_Sl_9 rfl (by repeat' first | assumption | exact al_A | refine pR_A ?_ | refine aL_A ?_) (by first | rfl | decide | assumption) (by first | rfl | decide | assumption) ?_ <;> try ((first | refine T_aload_n (pc1 := 10) (pc := 9) k_Sl_init_9 rfl rfl ?_ | refine T_aload_nN (pc1 := 10) (pc := 9) k_Sl_init_9 rfl rfl ?_) <;> try (refine T_new (pc1 := 13) (pc := 10) k_Sl_init_10 rfl w_Sl_15 (by first | assumption | (simp only [gz_al, gz_p] at *; omega)) ?_ <;> try (refine T_dup (pc1 := 14) (pc := 13) k_Sl_init_13 rfl rfl ?_ <;> try ((refine T_cJ (As := []) (d1 := 1) (pc1 := 17) (pc := 14) k_Sl_init_14 rfl (by decide) (Nat.le_of_ble_eq_true rfl) rfl o_B_init l_Sl_17 rfl (c_B_init al_A ?_) <;> try dsimp only [psh]) <;> try (refine T_putRF (pc1 := 20) (pc := 17) k_Sl_init_17 rfl f_Sl_18 rfl (by repeat' first | assumption | exact al_A | refine pR_A ?_ | refine aL_A ?_) (by first | exact Or.inl ⟨_, rfl⟩ | exact Or.inr ⟨_, rfl⟩) ⟨rfl, rfl⟩ ?_ <;> try ((first | refine T_aload_n (pc1 := 21) (pc := 20) k_Sl_init_20 rfl rfl ?_ | refine T_aload_nN (pc1 := 21) (pc := 20) k_Sl_init_20 rfl rfl ?_) <;> try (refine T_new (pc1 := 24) (pc := 21) k_Sl_init_21 rfl w_Sl_22 (by first | assumption | (simp only [gz_al, gz_p] at *; omega)) ?_ <;> try (refine T_dup (pc1 := 25) (pc := 24) k_Sl_init_24 rfl rfl ?_ <;> try ((refine T_cJ (As := []) (d1 := 1) (pc1 := 28) (pc := 25) k_Sl_init_25 rfl (by decide) (Nat.le_of_ble_eq_true rfl) rfl o_Sh_init l_Sl_24 rfl (c_Sh_init al_A (by simp only [gz_al, gz_p]; omega) ?_) <;> try dsimp only [psh])))))))))))))))
    | (refine T_putRF (pc1 := 31) (pc := 28) k_Sl_init_28 rfl f_Sl_25 rfl (by repeat' first | assumption | exact al_A | refine pR_A ?_ | refine aL_A ?_) (by first | exact Or.inl ⟨_, rfl⟩ | exact Or.inr ⟨_, rfl⟩) ⟨rfl, rfl⟩ ?_ <;> try ((first | refine T_aload_n (pc1 := 32) (pc := 31) k_Sl_init_31 rfl rfl ?_ | refine T_aload_nN (pc1 := 32) (pc := 31) k_Sl_init_31 rfl rfl ?_) <;> try (refine T_iconst (v := (nI 0)) (pc1 := 33) (pc := 32) k_Sl_init_32 rfl (by decide) ?_ <;> try (refine T_putI (pc1 := 36) (pc := 33) k_Sl_init_33 rfl f_Sl_29 rfl (by repeat' first | assumption | exact al_A | refine pR_A ?_ | refine aL_A ?_) (by first | rfl | decide | assumption) (by first | rfl | decide | assumption) ?_ <;> try (refine T_retV (pc := 36) k_Sl_init_36 rfl ?_)))))
    | refine T_objInit (pc1 := 4) (pc := 1) k_Sl_init_1 rfl l_Sl_3 (by decide) (Nat.le_of_ble_eq_true rfl) ?_
    | refine T_aload_n (pc1 := 5) (pc := 4) k_Sl_init_4 rfl rfl ?_
    | refine T_aload_nN (pc1 := 5) (pc := 4) k_Sl_init_4 rfl rfl ?_
    | refine T_iconst (v := (nI 0)) (pc1 := 6) (pc := 5) k_Sl_init_5 rfl (by decide) ?_
    | refine T_putI (pc1 := 9) (pc := 6) k_Sl_init_6 rfl f_Sl_9 rfl (by repeat' first | assumption | exact al_A | refine pR_A ?_ | refine aL_A ?_) (by first | rfl | decide | assumption) (by first | rfl | decide | assumption) ?_
    | refine T_aload_n (pc1 := 10) (pc := 9) k_Sl_init_9 rfl rfl ?_
    | refine T_aload_nN (pc1 := 10) (pc := 9) k_Sl_init_9 rfl rfl ?_
    | refine T_new (pc1 := 13) (pc := 10) k_Sl_init_10 rfl w_Sl_15 (by first | assumption | (simp only [gz_al, gz_p] at *; omega)) ?_
    | refine T_dup (pc1 := 14) (pc := 13) k_Sl_init_13 rfl rfl ?_
    | (refine T_cJ (As := []) (d1 := 1) (pc1 := 17) (pc := 14) k_Sl_init_14 rfl (by decide) (Nat.le_of_ble_eq_true rfl) rfl o_B_init l_Sl_17 rfl (c_B_init al_A ?_) <;> try dsimp only [psh])
    | refine T_putRF (pc1 := 20) (pc := 17) k_Sl_init_17 rfl f_Sl_18 rfl (by repeat' first | assumption | exact al_A | refine pR_A ?_ | refine aL_A ?_) (by first | exact Or.inl ⟨_, rfl⟩ | exact Or.inr ⟨_, rfl⟩) ⟨rfl, rfl⟩ ?_
    | refine T_aload_n (pc1 := 21) (pc := 20) k_Sl_init_20 rfl rfl ?_
    | refine T_aload_nN (pc1 := 21) (pc := 20) k_Sl_init_20 rfl rfl ?_
    | refine T_new (pc1 := 24) (pc := 21) k_Sl_init_21 rfl w_Sl_22 (by first | assumption | (simp only [gz_al, gz_p] at *; omega)) ?_
    | refine T_dup (pc1 := 25) (pc := 24) k_Sl_init_24 rfl rfl ?_
    | (refine T_cJ (As := []) (d1 := 1) (pc1 := 28) (pc := 25) k_Sl_init_25 rfl (by decide) (Nat.le_of_ble_eq_true rfl) rfl o_Sh_init l_Sl_24 rfl (c_Sh_init al_A (by simp only [gz_al, gz_p]; omega) ?_) <;> try dsimp only [psh])
    | refine T_aload_n (pc1 := 32) (pc := 31) k_Sl_init_31 rfl rfl ?_
    | refine T_aload_nN (pc1 := 32) (pc := 31) k_Sl_init_31 rfl rfl ?_
    | refine T_iconst (v := (nI 0)) (pc1 := 33) (pc := 32) k_Sl_init_32 rfl (by decide) ?_
    | refine T_putI (pc1 := 36) (pc := 33) k_Sl_init_33 rfl f_Sl_29 rfl (by repeat' first | assumption | exact al_A | refine pR_A ?_ | refine aL_A ?_) (by first | rfl | decide | assumption) (by first | rfl | decide | assumption) ?_
    | refine T_retV (pc := 36) k_Sl_init_36 rfl ?_)
  exact kk
end I3
