/-! The constructors: a land. -/
section PI2
theorem va_here {α : Type} {f : Nat → α} {i j : Nat} {x : α} (h : j = i) : va_up f i x j = x := by subst h; rw [va_up_self]
def kl (j : Nat) : Nat × Nat := if j = 0 then (1, 11) else if j = 1 then (101, 14) else if j = 2 then (102, 14) else if j = 3 then (100, 3) else if j = 4 then (7, 6) else if j = 5 then (100, 60) else (0, 6)
def rl (a b j k : Nat) : Option Nat := if j = 0 then (if k = 0 then some (a + 1) else if k = 7 then some (a + 2) else if k = 9 then some (a + 3) else if k = 10 then some (a + 4) else none) else if j = 1 then (if k < b then some (a + 6 + k) else none) else if j = 4 then (if k = 5 then some (a + 5) else none) else none
theorem rl1 {a b k : Nat} : rl a b 1 k = if k < b then some (a + 6 + k) else none := by unfold rl; rw [if_neg (by decide), if_pos rfl]
/-- a land is made in the cells from a on: b bits so far -/
def NLd (a b : Nat) (g0 g : Geo) (I J : IM) : Prop := NX a g0 g ∧ gz g = a + 6 + b ∧ gs g = gs g0 + 97 + 6 * b ∧ (∀ j, j < 6 + b → gk g (a + j) = kl j) ∧ (∀ j, j < 6 + b → ∀ k, gR g (a + j) k = rl a b j k) ∧ (∀ i, i < a → J i = I i) ∧ (J a 1 = nI 0 ∧ J a 2 = nI 0 ∧ J a 3 = nI 20 ∧ J a 4 = nI 0 ∧ J a 5 = nI 0 ∧ J a 6 = nI 1 ∧ J a 8 = nI 0) ∧ (∀ k, k < 3 → J (a + 3) k = cNONE) ∧ (J (a + 4) 0 = nI 0 ∧ J (a + 4) 1 = nI 0 ∧ J (a + 4) 2 = nI 0 ∧ J (a + 4) 3 = nI 0 ∧ J (a + 4) 4 = nI 0)
end PI2
section I2
variable {g : Geo} {I : IM} {K : Option Value → Geo → IM → Prop}
set_option maxRecDepth 100000 in
set_option maxHeartbeats 8000000 in
theorem c_La_init {a : Nat} (ha : isAg g a 1 11) (hz : gz g = a + 1) (hz9 : gz g < 900) (hfr : ∀ k, gR g a k = none) (kk : ∀ g' J, NLd a 14 g g' I J → K none g' J) : Cl 2 M_La_init [.ref a] g I K := by
  show Rl 2 M_La_init 0 [some (.ref a), none] [] g I K
  have loop : ∀ q b (g1 : Geo) (J : IM), b + q = 14 → NLd a b g g1 I J → Rl 2 M_La_init 93 [some (.ref a), some (.int (nI b))] [] g1 J K := by
    intro q
    induction q with
    | zero =>
      intro b g1 J hb hN
      have hb : b = 14 := by omega
      subst hb
      repeat' (first
        | (refine T_iload_n (pc1 := 94) (pc := 93) k_La_init_93 rfl rfl ?_ <;> try (refine T_bipush (v := (nI 14)) (pc1 := 96) (pc := 94) k_La_init_94 rfl (by decide) ?_ <;> try ((first | (with_reducible refine T_icmp_geN (tgt := 118) (pc1 := 99) (pc := 96) k_La_init_96 (by decide) (by decide) (by omega) (by omega) (fun hc => ?_) (fun hc => ?_) <;> first | (exfalso; omega) | skip) | refine T_icmp_ge_t (tgt := 118) (pc := 96) k_La_init_96 rfl (by decide) ?_ | refine T_icmp_ge_f (tgt := 118) (pc1 := 99) (pc := 96) k_La_init_96 rfl rfl (by decide) ?_ | refine T_icmp_ge (tgt := 118) (pc1 := 99) (pc := 96) k_La_init_96 rfl rfl (fun hc => ?_) (fun hc => ?_)))))
        | (refine T_retV (pc := 118) k_La_init_118 rfl ?_)
        | refine T_bipush (v := (nI 14)) (pc1 := 96) (pc := 94) k_La_init_94 rfl (by decide) ?_
        | (with_reducible refine T_icmp_geN (tgt := 118) (pc1 := 99) (pc := 96) k_La_init_96 (by decide) (by decide) (by omega) (by omega) (fun hc => ?_) (fun hc => ?_) <;> first | (exfalso; omega) | skip)
        | refine T_icmp_ge_t (tgt := 118) (pc := 96) k_La_init_96 rfl (by decide) ?_
        | refine T_icmp_ge_f (tgt := 118) (pc1 := 99) (pc := 96) k_La_init_96 rfl rfl (by decide) ?_
        | refine T_icmp_ge (tgt := 118) (pc1 := 99) (pc := 96) k_La_init_96 rfl rfl (fun hc => ?_) (fun hc => ?_))
      exact kk g1 J hN
    | succ q ih =>
      intro b g1 J hb hN
      obtain ⟨n1, n2, n3, n4, n5, n6, n7, n8, n9⟩ := id hN
      have ha1 : isAg g1 a 1 11 := ⟨by omega, by have := n4 0 (by omega); exact this⟩
      have hb1 : isAg g1 (a + 1) (101 + 0) 14 := ⟨by omega, by have := n4 1 (by omega); exact this⟩
      have hr : gR g1 a 0 = some (a + 1) := by have := n5 0 (by omega) 0; exact this
      have hzz : gz g1 < 1000000 := by omega
      have cb : (nI b).toNatClampNeg = b := nI_clamp (by omega)
      refine T_iload_n (pc1 := 94) (pc := 93) k_La_init_93 rfl rfl ?_
      repeat' (first
        | (refine T_bipush (v := (nI 14)) (pc1 := 96) (pc := 94) k_La_init_94 rfl (by decide) ?_ <;> try ((first | (with_reducible refine T_icmp_geN (tgt := 118) (pc1 := 99) (pc := 96) k_La_init_96 (by decide) (by decide) (by omega) (by omega) (fun hc => ?_) (fun hc => ?_) <;> first | (exfalso; omega) | skip) | refine T_icmp_ge_t (tgt := 118) (pc := 96) k_La_init_96 rfl (by decide) ?_ | refine T_icmp_ge_f (tgt := 118) (pc1 := 99) (pc := 96) k_La_init_96 rfl rfl (by decide) ?_ | refine T_icmp_ge (tgt := 118) (pc1 := 99) (pc := 96) k_La_init_96 rfl rfl (fun hc => ?_) (fun hc => ?_))))
        | ((first | refine T_aload_n (pc1 := 100) (pc := 99) k_La_init_99 rfl rfl ?_ | refine T_aload_nN (pc1 := 100) (pc := 99) k_La_init_99 rfl rfl ?_) <;> try (refine T_getR (pc1 := 103) (pc := 100) k_La_init_100 rfl f_La_11 rfl (by repeat' first | assumption | exact al_A | refine pR_A ?_ | refine aL_A ?_) (by first | assumption | rfl) ?_ <;> try (refine T_iload_n (pc1 := 104) (pc := 103) k_La_init_103 rfl rfl ?_ <;> try (refine T_new (pc1 := 107) (pc := 104) k_La_init_104 rfl w_La_9 (by first | assumption | (simp only [gz_al, gz_p] at *; omega)) ?_ <;> try (refine T_dup (pc1 := 108) (pc := 107) k_La_init_107 rfl rfl ?_ <;> try ((refine T_cJ (As := []) (d1 := 1) (pc1 := 111) (pc := 108) k_La_init_108 rfl (by decide) (Nat.le_of_ble_eq_true rfl) rfl o_B_init l_La_57 rfl (c_B_init al_A ?_) <;> try dsimp only [psh]) <;> try ((refine T_aast (e0 := 0) (ci := 0) (nc := 6) (pc1 := 112) (pc := 111) k_La_init_111 rfl rfl (aL_A hb1) (vp_in_nI (by omega) (by omega)) al_A ?_; rw [cb]) <;> try ((first | refine T_iincN (b := 1) (pc1 := 115) (pc := 112) k_La_init_112 rfl rfl (by decide) ?_ | refine T_iinc (v := (nI 1)) (pc1 := 115) (pc := 112) k_La_init_112 rfl rfl (by decide) ?_) <;> try (refine T_goto (tgt := 93) (pc := 115) k_La_init_115 rfl ?_)))))))))
        | (with_reducible refine T_icmp_geN (tgt := 118) (pc1 := 99) (pc := 96) k_La_init_96 (by decide) (by decide) (by omega) (by omega) (fun hc => ?_) (fun hc => ?_) <;> first | (exfalso; omega) | skip)
        | refine T_icmp_ge_t (tgt := 118) (pc := 96) k_La_init_96 rfl (by decide) ?_
        | refine T_icmp_ge_f (tgt := 118) (pc1 := 99) (pc := 96) k_La_init_96 rfl rfl (by decide) ?_
        | refine T_icmp_ge (tgt := 118) (pc1 := 99) (pc := 96) k_La_init_96 rfl rfl (fun hc => ?_) (fun hc => ?_)
        | refine T_getR (pc1 := 103) (pc := 100) k_La_init_100 rfl f_La_11 rfl (by repeat' first | assumption | exact al_A | refine pR_A ?_ | refine aL_A ?_) (by first | assumption | rfl) ?_
        | refine T_iload_n (pc1 := 104) (pc := 103) k_La_init_103 rfl rfl ?_
        | refine T_new (pc1 := 107) (pc := 104) k_La_init_104 rfl w_La_9 (by first | assumption | (simp only [gz_al, gz_p] at *; omega)) ?_
        | refine T_dup (pc1 := 108) (pc := 107) k_La_init_107 rfl rfl ?_
        | (refine T_cJ (As := []) (d1 := 1) (pc1 := 111) (pc := 108) k_La_init_108 rfl (by decide) (Nat.le_of_ble_eq_true rfl) rfl o_B_init l_La_57 rfl (c_B_init al_A ?_) <;> try dsimp only [psh])
        | (refine T_aast (e0 := 0) (ci := 0) (nc := 6) (pc1 := 112) (pc := 111) k_La_init_111 rfl rfl (aL_A hb1) (vp_in_nI (by omega) (by omega)) al_A ?_; rw [cb])
        | refine T_iincN (b := 1) (pc1 := 115) (pc := 112) k_La_init_112 rfl rfl (by decide) ?_
        | refine T_iinc (v := (nI 1)) (pc1 := 115) (pc := 112) k_La_init_112 rfl rfl (by decide) ?_
        | refine T_goto (tgt := 93) (pc := 115) k_La_init_115 rfl ?_)
      all_goals try (exfalso; omega)
      refine ih (b + 1) _ _ (by omega) ⟨NX_p (NX_al n1) (Or.inr (by omega)), ?_, ?_, fun j hj => ?_, fun j hj k => ?_, fun i hi => ?_, ?_, fun k hk => ?_, ?_⟩
      · rw [gz_p, gz_al]; omega
      · rw [gs_p, gs_al]; omega
      · rw [gk_p, gk_al]
        by_cases h : j = 6 + b
        · rw [va_here (by omega)]
          unfold kl
          rw [if_neg (by omega), if_neg (by omega), if_neg (by omega), if_neg (by omega), if_neg (by omega), if_neg (by omega)]
        · rw [va_up_ne _ _ (by omega)]; exact n4 j (by omega)
      · rw [gR_p]
        by_cases h1 : j = 1
        · subst h1
          rw [va_up_self]
          by_cases hk : k = b
          · subst hk
            rw [va_up_self, rl1, if_pos (by omega), n2]
          · rw [va_up_ne _ _ hk, gR_al, va_up_ne _ _ (by omega), n5 1 (by omega) k, rl1, rl1]
            by_cases hkb : k < b
            · rw [if_pos hkb, if_pos (by omega)]
            · rw [if_neg hkb, if_neg (by omega)]
        · rw [va_up_ne _ _ (by omega), gR_al]
          by_cases h : j = 6 + b
          · rw [va_here (by omega), rl, if_neg (by omega), if_neg h1, if_neg (by omega)]
          · rw [va_up_ne _ _ (by omega), n5 j (by omega) k]
            unfold rl
            rw [if_neg h1, if_neg h1]
      · simp (disch := omega) only [pI_rw, va_up_ne, ne_eq]; exact n6 i hi
      · have e : ∀ i, i < a + 6 + b → ∀ J2 : IM, J2 = pI (pI (pI (pI (pI (pI (va_up J (gz g1) (fun _ => 0)) (gz g1) 0 (nI 0)) (gz g1) 1 (nI 0)) (gz g1) 2 (nI 0)) (gz g1) 3 (nI 0)) (gz g1) 4 (nI 0)) (gz g1) 5 cNONE → J2 i = J i := fun i hi J2 h2 => by
          rw [h2]
          simp (disch := omega) only [pI_rw, va_up_ne, ne_eq]
        rw [e a (by omega) _ rfl]; exact n7
      · simp (disch := omega) only [pI_row, va_up_ne, ne_eq]; exact n8 k hk
      · have e : ∀ i, i < a + 6 + b → ∀ J2 : IM, J2 = pI (pI (pI (pI (pI (pI (va_up J (gz g1) (fun _ => 0)) (gz g1) 0 (nI 0)) (gz g1) 1 (nI 0)) (gz g1) 2 (nI 0)) (gz g1) 3 (nI 0)) (gz g1) 4 (nI 0)) (gz g1) 5 cNONE → J2 i = J i := fun i hi J2 h2 => by
          rw [h2]
          simp (disch := omega) only [pI_rw, va_up_ne, ne_eq]
        rw [e (a + 4) (by omega) _ rfl]; exact n9
  have hzz : gz g < 1000000 := by omega
  repeat' (first
    | ((first | refine T_aload_n (pc1 := 1) (pc := 0) k_La_init_0 rfl rfl ?_ | refine T_aload_nN (pc1 := 1) (pc := 0) k_La_init_0 rfl rfl ?_) <;> try (refine T_objInit (pc1 := 4) (pc := 1) k_La_init_1 rfl l_La_3 (by decide) (Nat.le_of_ble_eq_true rfl) ?_ <;> try ((first | refine T_aload_n (pc1 := 5) (pc := 4) k_La_init_4 rfl rfl ?_ | refine T_aload_nN (pc1 := 5) (pc := 4) k_La_init_4 rfl rfl ?_) <;> try (refine T_bipush (v := (nI 14)) (pc1 := 7) (pc := 5) k_La_init_5 rfl (by decide) ?_ <;> try (refine T_anew (n := _) (e0 := 0) (pc1 := 10) (pc := 7) k_La_init_7 rfl rfl n_La_9 (by decide) rfl (by decide) (by first | assumption | (simp only [gz_al, gz_p] at *; omega)) ?_ <;> try (refine T_putRF (pc1 := 13) (pc := 10) k_La_init_10 rfl f_La_11 rfl (by repeat' first | assumption | exact al_A | refine pR_A ?_ | refine aL_A ?_) (by first | exact Or.inl ⟨_, rfl⟩ | exact Or.inr ⟨_, rfl⟩) ⟨rfl, rfl⟩ ?_ <;> try ((first | refine T_aload_n (pc1 := 14) (pc := 13) k_La_init_13 rfl rfl ?_ | refine T_aload_nN (pc1 := 14) (pc := 13) k_La_init_13 rfl rfl ?_) <;> try (refine T_iconst (v := (nI 0)) (pc1 := 15) (pc := 14) k_La_init_14 rfl (by decide) ?_ <;> try (refine T_putI (pc1 := 18) (pc := 15) k_La_init_15 rfl f_La_17 rfl (by repeat' first | assumption | exact al_A | refine pR_A ?_ | refine aL_A ?_) (by first | rfl | decide | assumption) (by first | rfl | decide | assumption) ?_ <;> try ((first | refine T_aload_n (pc1 := 19) (pc := 18) k_La_init_18 rfl rfl ?_ | refine T_aload_nN (pc1 := 19) (pc := 18) k_La_init_18 rfl rfl ?_) <;> try (refine T_iconst (v := (nI 0)) (pc1 := 20) (pc := 19) k_La_init_19 rfl (by decide) ?_ <;> try (refine T_putI (pc1 := 23) (pc := 20) k_La_init_20 rfl f_La_21 rfl (by repeat' first | assumption | exact al_A | refine pR_A ?_ | refine aL_A ?_) (by first | rfl | decide | assumption) (by first | rfl | decide | assumption) ?_ <;> try ((first | refine T_aload_n (pc1 := 24) (pc := 23) k_La_init_23 rfl rfl ?_ | refine T_aload_nN (pc1 := 24) (pc := 23) k_La_init_23 rfl rfl ?_) <;> try (refine T_bipush (v := (nI 20)) (pc1 := 26) (pc := 24) k_La_init_24 rfl (by decide) ?_))))))))))))))
    | (refine T_putI (pc1 := 29) (pc := 26) k_La_init_26 rfl f_La_24 rfl (by repeat' first | assumption | exact al_A | refine pR_A ?_ | refine aL_A ?_) (by first | rfl | decide | assumption) (by first | rfl | decide | assumption) ?_ <;> try ((first | refine T_aload_n (pc1 := 30) (pc := 29) k_La_init_29 rfl rfl ?_ | refine T_aload_nN (pc1 := 30) (pc := 29) k_La_init_29 rfl rfl ?_) <;> try (refine T_iconst (v := (nI 0)) (pc1 := 31) (pc := 30) k_La_init_30 rfl (by decide) ?_ <;> try (refine T_putI (pc1 := 34) (pc := 31) k_La_init_31 rfl f_La_27 rfl (by repeat' first | assumption | exact al_A | refine pR_A ?_ | refine aL_A ?_) (by first | rfl | decide | assumption) (by first | rfl | decide | assumption) ?_ <;> try ((first | refine T_aload_n (pc1 := 35) (pc := 34) k_La_init_34 rfl rfl ?_ | refine T_aload_nN (pc1 := 35) (pc := 34) k_La_init_34 rfl rfl ?_) <;> try (refine T_iconst (v := (nI 0)) (pc1 := 36) (pc := 35) k_La_init_35 rfl (by decide) ?_ <;> try (refine T_putI (pc1 := 39) (pc := 36) k_La_init_36 rfl f_La_30 rfl (by repeat' first | assumption | exact al_A | refine pR_A ?_ | refine aL_A ?_) (by first | rfl | decide | assumption) (by first | rfl | decide | assumption) ?_ <;> try ((first | refine T_aload_n (pc1 := 40) (pc := 39) k_La_init_39 rfl rfl ?_ | refine T_aload_nN (pc1 := 40) (pc := 39) k_La_init_39 rfl rfl ?_) <;> try (refine T_iconst (v := (nI 1)) (pc1 := 41) (pc := 40) k_La_init_40 rfl (by decide) ?_ <;> try (refine T_putI (pc1 := 44) (pc := 41) k_La_init_41 rfl f_La_33 rfl (by repeat' first | assumption | exact al_A | refine pR_A ?_ | refine aL_A ?_) (by first | rfl | decide | assumption) (by first | rfl | decide | assumption) ?_ <;> try ((first | refine T_aload_n (pc1 := 45) (pc := 44) k_La_init_44 rfl rfl ?_ | refine T_aload_nN (pc1 := 45) (pc := 44) k_La_init_44 rfl rfl ?_) <;> try (refine T_bipush (v := (nI 14)) (pc1 := 47) (pc := 45) k_La_init_45 rfl (by decide) ?_ <;> try (refine T_anew (n := _) (e0 := 1) (pc1 := 50) (pc := 47) k_La_init_47 rfl rfl n_La_36 (by decide) rfl (by decide) (by first | assumption | (simp only [gz_al, gz_p] at *; omega)) ?_ <;> try (refine T_putRF (pc1 := 53) (pc := 50) k_La_init_50 rfl f_La_38 rfl (by repeat' first | assumption | exact al_A | refine pR_A ?_ | refine aL_A ?_) (by first | exact Or.inl ⟨_, rfl⟩ | exact Or.inr ⟨_, rfl⟩) ⟨rfl, rfl⟩ ?_))))))))))))))
    | ((first | refine T_aload_n (pc1 := 54) (pc := 53) k_La_init_53 rfl rfl ?_ | refine T_aload_nN (pc1 := 54) (pc := 53) k_La_init_53 rfl rfl ?_) <;> try (refine T_iconst (v := (nI 0)) (pc1 := 55) (pc := 54) k_La_init_54 rfl (by decide) ?_ <;> try (refine T_putI (pc1 := 58) (pc := 55) k_La_init_55 rfl f_La_42 rfl (by repeat' first | assumption | exact al_A | refine pR_A ?_ | refine aL_A ?_) (by first | rfl | decide | assumption) (by first | rfl | decide | assumption) ?_ <;> try ((first | refine T_aload_n (pc1 := 59) (pc := 58) k_La_init_58 rfl rfl ?_ | refine T_aload_nN (pc1 := 59) (pc := 58) k_La_init_58 rfl rfl ?_) <;> try (refine T_iconst (v := (nI 3)) (pc1 := 60) (pc := 59) k_La_init_59 rfl (by decide) ?_ <;> try (refine T_newa (n := _) (pc1 := 62) (pc := 60) k_La_init_60 rfl (by decide) rfl (by decide) (by first | assumption | (simp only [gz_al, gz_p] at *; omega)) ?_ <;> try (refine T_dup (pc1 := 63) (pc := 62) k_La_init_62 rfl rfl ?_ <;> try (refine T_iconst (v := (nI 0)) (pc1 := 64) (pc := 63) k_La_init_63 rfl (by decide) ?_ <;> try (refine T_ldc (v := (-1000000005)) (pc1 := 66) (pc := 64) k_La_init_64 rfl c_La_45 ?_ <;> try (refine T_iastN (pc1 := 67) (pc := 66) k_La_init_66 rfl al_A (by decide) (by decide) ?_ <;> try (refine T_dup (pc1 := 68) (pc := 67) k_La_init_67 rfl rfl ?_ <;> try (refine T_iconst (v := (nI 1)) (pc1 := 69) (pc := 68) k_La_init_68 rfl (by decide) ?_ <;> try (refine T_ldc (v := (-1000000005)) (pc1 := 71) (pc := 69) k_La_init_69 rfl c_La_45 ?_ <;> try (refine T_iastN (pc1 := 72) (pc := 71) k_La_init_71 rfl al_A (by decide) (by decide) ?_))))))))))))))
    | (refine T_dup (pc1 := 73) (pc := 72) k_La_init_72 rfl rfl ?_ <;> try (refine T_iconst (v := (nI 2)) (pc1 := 74) (pc := 73) k_La_init_73 rfl (by decide) ?_ <;> try (refine T_ldc (v := (-1000000005)) (pc1 := 76) (pc := 74) k_La_init_74 rfl c_La_45 ?_ <;> try (refine T_iastN (pc1 := 77) (pc := 76) k_La_init_76 rfl al_A (by decide) (by decide) ?_ <;> try (refine T_putRF (pc1 := 80) (pc := 77) k_La_init_77 rfl f_La_46 rfl (by repeat' first | assumption | exact al_A | refine pR_A ?_ | refine aL_A ?_) (by first | exact Or.inl ⟨_, rfl⟩ | exact Or.inr ⟨_, rfl⟩) ⟨rfl, rfl⟩ ?_ <;> try ((first | refine T_aload_n (pc1 := 81) (pc := 80) k_La_init_80 rfl rfl ?_ | refine T_aload_nN (pc1 := 81) (pc := 80) k_La_init_80 rfl rfl ?_) <;> try (refine T_new (pc1 := 84) (pc := 81) k_La_init_81 rfl w_La_50 (by first | assumption | (simp only [gz_al, gz_p] at *; omega)) ?_ <;> try (refine T_dup (pc1 := 85) (pc := 84) k_La_init_84 rfl rfl ?_ <;> try ((refine T_cJ (As := []) (d1 := 1) (pc1 := 88) (pc := 85) k_La_init_85 rfl (by decide) (Nat.le_of_ble_eq_true rfl) rfl o_Wa_init l_La_52 rfl (c_Wa_init al_A (by simp only [gz_al, gz_p]; omega) ?_) <;> try dsimp only [psh]) <;> try (refine T_putRF (pc1 := 91) (pc := 88) k_La_init_88 rfl f_La_53 rfl (by repeat' first | assumption | exact al_A | refine pR_A ?_ | refine aL_A ?_) (by first | exact Or.inl ⟨_, rfl⟩ | exact Or.inr ⟨_, rfl⟩) ⟨rfl, rfl⟩ ?_ <;> try (refine T_iconst (v := (nI 0)) (pc1 := 92) (pc := 91) k_La_init_91 rfl (by decide) ?_ <;> try (refine T_istore_n (pc1 := 93) (pc := 92) k_La_init_92 rfl (Nat.le_of_ble_eq_true rfl) ?_))))))))))))
    | refine T_objInit (pc1 := 4) (pc := 1) k_La_init_1 rfl l_La_3 (by decide) (Nat.le_of_ble_eq_true rfl) ?_
    | refine T_aload_n (pc1 := 5) (pc := 4) k_La_init_4 rfl rfl ?_
    | refine T_aload_nN (pc1 := 5) (pc := 4) k_La_init_4 rfl rfl ?_
    | refine T_bipush (v := (nI 14)) (pc1 := 7) (pc := 5) k_La_init_5 rfl (by decide) ?_
    | refine T_anew (n := _) (e0 := 0) (pc1 := 10) (pc := 7) k_La_init_7 rfl rfl n_La_9 (by decide) rfl (by decide) (by first | assumption | (simp only [gz_al, gz_p] at *; omega)) ?_
    | refine T_putRF (pc1 := 13) (pc := 10) k_La_init_10 rfl f_La_11 rfl (by repeat' first | assumption | exact al_A | refine pR_A ?_ | refine aL_A ?_) (by first | exact Or.inl ⟨_, rfl⟩ | exact Or.inr ⟨_, rfl⟩) ⟨rfl, rfl⟩ ?_
    | refine T_aload_n (pc1 := 14) (pc := 13) k_La_init_13 rfl rfl ?_
    | refine T_aload_nN (pc1 := 14) (pc := 13) k_La_init_13 rfl rfl ?_
    | refine T_iconst (v := (nI 0)) (pc1 := 15) (pc := 14) k_La_init_14 rfl (by decide) ?_
    | refine T_putI (pc1 := 18) (pc := 15) k_La_init_15 rfl f_La_17 rfl (by repeat' first | assumption | exact al_A | refine pR_A ?_ | refine aL_A ?_) (by first | rfl | decide | assumption) (by first | rfl | decide | assumption) ?_
    | refine T_aload_n (pc1 := 19) (pc := 18) k_La_init_18 rfl rfl ?_
    | refine T_aload_nN (pc1 := 19) (pc := 18) k_La_init_18 rfl rfl ?_
    | refine T_iconst (v := (nI 0)) (pc1 := 20) (pc := 19) k_La_init_19 rfl (by decide) ?_
    | refine T_putI (pc1 := 23) (pc := 20) k_La_init_20 rfl f_La_21 rfl (by repeat' first | assumption | exact al_A | refine pR_A ?_ | refine aL_A ?_) (by first | rfl | decide | assumption) (by first | rfl | decide | assumption) ?_
    | refine T_aload_n (pc1 := 24) (pc := 23) k_La_init_23 rfl rfl ?_
    | refine T_aload_nN (pc1 := 24) (pc := 23) k_La_init_23 rfl rfl ?_
    | refine T_bipush (v := (nI 20)) (pc1 := 26) (pc := 24) k_La_init_24 rfl (by decide) ?_
    | refine T_aload_n (pc1 := 30) (pc := 29) k_La_init_29 rfl rfl ?_
    | refine T_aload_nN (pc1 := 30) (pc := 29) k_La_init_29 rfl rfl ?_
    | refine T_iconst (v := (nI 0)) (pc1 := 31) (pc := 30) k_La_init_30 rfl (by decide) ?_
    | refine T_putI (pc1 := 34) (pc := 31) k_La_init_31 rfl f_La_27 rfl (by repeat' first | assumption | exact al_A | refine pR_A ?_ | refine aL_A ?_) (by first | rfl | decide | assumption) (by first | rfl | decide | assumption) ?_
    | refine T_aload_n (pc1 := 35) (pc := 34) k_La_init_34 rfl rfl ?_
    | refine T_aload_nN (pc1 := 35) (pc := 34) k_La_init_34 rfl rfl ?_
    | refine T_iconst (v := (nI 0)) (pc1 := 36) (pc := 35) k_La_init_35 rfl (by decide) ?_
    | refine T_putI (pc1 := 39) (pc := 36) k_La_init_36 rfl f_La_30 rfl (by repeat' first | assumption | exact al_A | refine pR_A ?_ | refine aL_A ?_) (by first | rfl | decide | assumption) (by first | rfl | decide | assumption) ?_
    | refine T_aload_n (pc1 := 40) (pc := 39) k_La_init_39 rfl rfl ?_
    | refine T_aload_nN (pc1 := 40) (pc := 39) k_La_init_39 rfl rfl ?_
    | refine T_iconst (v := (nI 1)) (pc1 := 41) (pc := 40) k_La_init_40 rfl (by decide) ?_
    | refine T_putI (pc1 := 44) (pc := 41) k_La_init_41 rfl f_La_33 rfl (by repeat' first | assumption | exact al_A | refine pR_A ?_ | refine aL_A ?_) (by first | rfl | decide | assumption) (by first | rfl | decide | assumption) ?_
    | refine T_aload_n (pc1 := 45) (pc := 44) k_La_init_44 rfl rfl ?_
    | refine T_aload_nN (pc1 := 45) (pc := 44) k_La_init_44 rfl rfl ?_
    | refine T_bipush (v := (nI 14)) (pc1 := 47) (pc := 45) k_La_init_45 rfl (by decide) ?_
    | refine T_anew (n := _) (e0 := 1) (pc1 := 50) (pc := 47) k_La_init_47 rfl rfl n_La_36 (by decide) rfl (by decide) (by first | assumption | (simp only [gz_al, gz_p] at *; omega)) ?_
    | refine T_putRF (pc1 := 53) (pc := 50) k_La_init_50 rfl f_La_38 rfl (by repeat' first | assumption | exact al_A | refine pR_A ?_ | refine aL_A ?_) (by first | exact Or.inl ⟨_, rfl⟩ | exact Or.inr ⟨_, rfl⟩) ⟨rfl, rfl⟩ ?_
    | refine T_iconst (v := (nI 0)) (pc1 := 55) (pc := 54) k_La_init_54 rfl (by decide) ?_
    | refine T_putI (pc1 := 58) (pc := 55) k_La_init_55 rfl f_La_42 rfl (by repeat' first | assumption | exact al_A | refine pR_A ?_ | refine aL_A ?_) (by first | rfl | decide | assumption) (by first | rfl | decide | assumption) ?_
    | refine T_aload_n (pc1 := 59) (pc := 58) k_La_init_58 rfl rfl ?_
    | refine T_aload_nN (pc1 := 59) (pc := 58) k_La_init_58 rfl rfl ?_
    | refine T_iconst (v := (nI 3)) (pc1 := 60) (pc := 59) k_La_init_59 rfl (by decide) ?_
    | refine T_newa (n := _) (pc1 := 62) (pc := 60) k_La_init_60 rfl (by decide) rfl (by decide) (by first | assumption | (simp only [gz_al, gz_p] at *; omega)) ?_
    | refine T_dup (pc1 := 63) (pc := 62) k_La_init_62 rfl rfl ?_
    | refine T_iconst (v := (nI 0)) (pc1 := 64) (pc := 63) k_La_init_63 rfl (by decide) ?_
    | refine T_ldc (v := (-1000000005)) (pc1 := 66) (pc := 64) k_La_init_64 rfl c_La_45 ?_
    | refine T_iastN (pc1 := 67) (pc := 66) k_La_init_66 rfl al_A (by decide) (by decide) ?_
    | refine T_dup (pc1 := 68) (pc := 67) k_La_init_67 rfl rfl ?_
    | refine T_iconst (v := (nI 1)) (pc1 := 69) (pc := 68) k_La_init_68 rfl (by decide) ?_
    | refine T_ldc (v := (-1000000005)) (pc1 := 71) (pc := 69) k_La_init_69 rfl c_La_45 ?_
    | refine T_iastN (pc1 := 72) (pc := 71) k_La_init_71 rfl al_A (by decide) (by decide) ?_
    | refine T_iconst (v := (nI 2)) (pc1 := 74) (pc := 73) k_La_init_73 rfl (by decide) ?_
    | refine T_ldc (v := (-1000000005)) (pc1 := 76) (pc := 74) k_La_init_74 rfl c_La_45 ?_
    | refine T_iastN (pc1 := 77) (pc := 76) k_La_init_76 rfl al_A (by decide) (by decide) ?_
    | refine T_putRF (pc1 := 80) (pc := 77) k_La_init_77 rfl f_La_46 rfl (by repeat' first | assumption | exact al_A | refine pR_A ?_ | refine aL_A ?_) (by first | exact Or.inl ⟨_, rfl⟩ | exact Or.inr ⟨_, rfl⟩) ⟨rfl, rfl⟩ ?_
    | refine T_aload_n (pc1 := 81) (pc := 80) k_La_init_80 rfl rfl ?_
    | refine T_aload_nN (pc1 := 81) (pc := 80) k_La_init_80 rfl rfl ?_
    | refine T_new (pc1 := 84) (pc := 81) k_La_init_81 rfl w_La_50 (by first | assumption | (simp only [gz_al, gz_p] at *; omega)) ?_
    | refine T_dup (pc1 := 85) (pc := 84) k_La_init_84 rfl rfl ?_
    | (refine T_cJ (As := []) (d1 := 1) (pc1 := 88) (pc := 85) k_La_init_85 rfl (by decide) (Nat.le_of_ble_eq_true rfl) rfl o_Wa_init l_La_52 rfl (c_Wa_init al_A (by simp only [gz_al, gz_p]; omega) ?_) <;> try dsimp only [psh])
    | refine T_putRF (pc1 := 91) (pc := 88) k_La_init_88 rfl f_La_53 rfl (by repeat' first | assumption | exact al_A | refine pR_A ?_ | refine aL_A ?_) (by first | exact Or.inl ⟨_, rfl⟩ | exact Or.inr ⟨_, rfl⟩) ⟨rfl, rfl⟩ ?_
    | refine T_iconst (v := (nI 0)) (pc1 := 92) (pc := 91) k_La_init_91 rfl (by decide) ?_
    | refine T_istore_n (pc1 := 93) (pc := 92) k_La_init_92 rfl (Nat.le_of_ble_eq_true rfl) ?_)
  refine loop 14 0 _ _ (by omega) ⟨?_, ?_, ?_, fun j hj => ?_, fun j hj k => ?_, fun i hi => ?_, ⟨?_, ?_, ?_, ?_, ?_, ?_, ?_⟩, fun k hk => ?_, ⟨?_, ?_, ?_, ?_, ?_⟩⟩
  · exact NX_p (NX_p (NX_al (NX_al (NX_p (NX_al (NX_p (NX_al (NX_p (NX_al NX_rf) (Or.inl rfl))) (Or.inl rfl))) (Or.inl rfl)))) (Or.inr (by simp only [gz_al, gz_p]; omega))) (Or.inl rfl)
  · simp only [gz_al, gz_p, hz]
  · have e14 : (nI 14).toNatClampNeg = 14 := by decide
    have e3 : (nI 3).toNatClampNeg = 3 := by decide
    simp only [gs_al, gs_p]; omega
  · obtain rfl | rfl | rfl | rfl | rfl | rfl : j = 0 ∨ j = 1 ∨ j = 2 ∨ j = 3 ∨ j = 4 ∨ j = 5 := by omega
    · simp (disch := omega) only [gk_al, gk_p, gz_al, gz_p, hz, va_here, va_up_ne, ne_eq]; exact ha.2
    all_goals (simp (disch := omega) only [gk_al, gk_p, gz_al, gz_p, hz, va_here, va_up_ne, ne_eq]; rfl)
  · obtain rfl | rfl | rfl | rfl | rfl | rfl : j = 0 ∨ j = 1 ∨ j = 2 ∨ j = 3 ∨ j = 4 ∨ j = 5 := by omega
    · simp (disch := omega) only [gR_al, gR_p, gz_al, gz_p, hz, va_here, va_up_ne, ne_eq]
      unfold rl
      rw [if_pos rfl]
      by_cases h10 : k = 10
      · subst h10; rfl
      by_cases h9 : k = 9
      · subst h9; rfl
      by_cases h7 : k = 7
      · subst h7; rfl
      by_cases h0 : k = 0
      · subst h0; rfl
      rw [va_up_ne _ _ h10, va_up_ne _ _ h9, va_up_ne _ _ h7, va_up_ne _ _ h0, if_neg h0, if_neg h7, if_neg h9, if_neg h10]
      exact hfr k
    · simp (disch := omega) only [gR_al, gR_p, gz_al, gz_p, hz, va_here, va_up_ne, ne_eq]
      unfold rl
      rw [if_neg (by decide), if_pos rfl, if_neg (by omega)]
    · simp (disch := omega) only [gR_al, gR_p, gz_al, gz_p, hz, va_here, va_up_ne, ne_eq]; rfl
    · simp (disch := omega) only [gR_al, gR_p, gz_al, gz_p, hz, va_here, va_up_ne, ne_eq]; rfl
    · simp (disch := omega) only [gR_al, gR_p, gz_al, gz_p, hz, va_here, va_up_ne, ne_eq]
      unfold rl
      rw [if_neg (by decide), if_neg (by decide), if_pos rfl]
      by_cases h5 : k = 5
      · subst h5; rfl
      · rw [va_up_ne _ _ h5, if_neg h5]
    · simp (disch := omega) only [gR_al, gR_p, gz_al, gz_p, hz, va_here, va_up_ne, ne_eq]; rfl
  · simp only [gz_al, gz_p, hz]
    simp (disch := omega) only [pI_rw, va_up_ne, ne_eq]
  all_goals try (obtain rfl | rfl | rfl : k = 0 ∨ k = 1 ∨ k = 2 := by omega)
  all_goals simp only [gz_al, gz_p, hz]
  all_goals simp (disch := omega) only [pI_eq, pI_col, pI_row, va_here, va_up_ne, ne_eq]
end I2
