/-! The constructor of the class: its end. -/
section I8
variable {g : Geo} {I : IM} {K : Option Value → Geo → IM → Prop}
def SHz (J : IM) (t : Nat) : Prop := J (73 + 2 * t) 0 = -1 ∧ J (73 + 2 * t) 1 = nI 0 ∧ ∀ k, k < 24 → J (74 + 2 * t) k = 0
set_option maxRecDepth 100000 in
theorem Si3 (kk : ∀ g' J, Bu 81 g' → g'.1 = g.1 → gs g' = gs g + 108 → (∀ i, i < 73 → J i = I i) → (∀ t, t < 4 → SHz J t) → Rl 3 M_S_init 130 [some (.ref 0), some (.int (nI 4))] [] g' J K) : ∀ q s (g1 : Geo) (J : IM), s + q = 4 → Bu (73 + 2 * s) g1 → g1.1 = g.1 → gs g1 = gs g + 27 * s → (∀ i, i < 73 → J i = I i) → (∀ t, t < s → SHz J t) → Rl 3 M_S_init 106 [some (.ref 0), some (.int (nI s))] [] g1 J K := by
  intro q
  induction q with
  | zero =>
    intro s g1 J hs B f1 s1 e1 v1
    have hs : s = 4 := by omega
    subst hs
    repeat' (first
      | (refine T_iload_n (pc1 := 107) (pc := 106) k_S_init_106 rfl rfl ?_ <;> try (refine T_iconst (v := (nI 4)) (pc1 := 108) (pc := 107) k_S_init_107 rfl (by decide) ?_ <;> try ((first | (with_reducible refine T_icmp_geN (tgt := 130) (pc1 := 111) (pc := 108) k_S_init_108 (by decide) (by decide) (by omega) (by omega) (fun hc => ?_) (fun hc => ?_) <;> first | (exfalso; omega) | skip) | refine T_icmp_ge_t (tgt := 130) (pc := 108) k_S_init_108 rfl (by decide) ?_ | refine T_icmp_ge_f (tgt := 130) (pc1 := 111) (pc := 108) k_S_init_108 rfl rfl (by decide) ?_ | refine T_icmp_ge (tgt := 130) (pc1 := 111) (pc := 108) k_S_init_108 rfl rfl (fun hc => ?_) (fun hc => ?_)))))
      | refine T_iconst (v := (nI 4)) (pc1 := 108) (pc := 107) k_S_init_107 rfl (by decide) ?_
      | (with_reducible refine T_icmp_geN (tgt := 130) (pc1 := 111) (pc := 108) k_S_init_108 (by decide) (by decide) (by omega) (by omega) (fun hc => ?_) (fun hc => ?_) <;> first | (exfalso; omega) | skip)
      | refine T_icmp_ge_t (tgt := 130) (pc := 108) k_S_init_108 rfl (by decide) ?_
      | refine T_icmp_ge_f (tgt := 130) (pc1 := 111) (pc := 108) k_S_init_108 rfl rfl (by decide) ?_
      | refine T_icmp_ge (tgt := 130) (pc1 := 111) (pc := 108) k_S_init_108 rfl rfl (fun hc => ?_) (fun hc => ?_))
    exact kk g1 J B f1 s1 e1 v1
  | succ q ih =>
    intro s g1 J hs B f1 s1 e1 v1
    have hz := B.1
    have hzz : gz g1 < 1000000 := by omega
    have h0 : isAg g1 0 9 11 := ⟨by omega, B.2.1 0 (by omega)⟩
    have hr : gR g1 0 7 = some 70 := (B.2.2 0 7 (by omega)).trans (by rw [show R0 0 7 = some 70 from rfl, cut_s, if_pos (by omega)])
    have hb : isAg g1 70 (101 + 2) 4 := ⟨by omega, B.2.1 70 (by omega)⟩
    have cb : (nI s).toNatClampNeg = s := nI_clamp (by omega)
    refine T_iload_n (pc1 := 107) (pc := 106) k_S_init_106 rfl rfl ?_
    repeat' (first
      | (refine T_iconst (v := (nI 4)) (pc1 := 108) (pc := 107) k_S_init_107 rfl (by decide) ?_ <;> try ((first | (with_reducible refine T_icmp_geN (tgt := 130) (pc1 := 111) (pc := 108) k_S_init_108 (by decide) (by decide) (by omega) (by omega) (fun hc => ?_) (fun hc => ?_) <;> first | (exfalso; omega) | skip) | refine T_icmp_ge_t (tgt := 130) (pc := 108) k_S_init_108 rfl (by decide) ?_ | refine T_icmp_ge_f (tgt := 130) (pc1 := 111) (pc := 108) k_S_init_108 rfl rfl (by decide) ?_ | refine T_icmp_ge (tgt := 130) (pc1 := 111) (pc := 108) k_S_init_108 rfl rfl (fun hc => ?_) (fun hc => ?_))))
      | ((first | refine T_aload_n (pc1 := 112) (pc := 111) k_S_init_111 rfl rfl ?_ | refine T_aload_nN (pc1 := 112) (pc := 111) k_S_init_111 rfl rfl ?_) <;> try (refine T_getR (pc1 := 115) (pc := 112) k_S_init_112 rfl f_S_49 rfl (by repeat' first | assumption | exact al_A | refine pR_A ?_ | refine aL_A ?_) (by first | assumption | rfl) ?_ <;> try (refine T_iload_n (pc1 := 116) (pc := 115) k_S_init_115 rfl rfl ?_ <;> try (refine T_new (pc1 := 119) (pc := 116) k_S_init_116 rfl w_S_47 (by first | assumption | (simp only [gz_al, gz_p] at *; omega)) ?_ <;> try (refine T_dup (pc1 := 120) (pc := 119) k_S_init_119 rfl rfl ?_ <;> try ((refine T_cJ (As := []) (d1 := 1) (pc1 := 123) (pc := 120) k_S_init_120 rfl (by decide) (Nat.le_of_ble_eq_true rfl) rfl o_Sh_init l_S_67 rfl (c_Sh_init al_A (by simp only [gz_al, gz_p]; omega) ?_) <;> try dsimp only [psh]) <;> try ((refine T_aast (e0 := 2) (ci := 3) (nc := 3) (pc1 := 124) (pc := 123) k_S_init_123 rfl rfl (pR_A (aL_A (aL_A hb))) (vp_in_nI (by omega) (by omega)) (pR_A (aL_A al_A)) ?_; rw [cb]) <;> try ((first | refine T_iincN (b := 1) (pc1 := 127) (pc := 124) k_S_init_124 rfl rfl (by decide) ?_ | refine T_iinc (v := (nI 1)) (pc1 := 127) (pc := 124) k_S_init_124 rfl rfl (by decide) ?_) <;> try (refine T_goto (tgt := 106) (pc := 127) k_S_init_127 rfl ?_)))))))))
      | (with_reducible refine T_icmp_geN (tgt := 130) (pc1 := 111) (pc := 108) k_S_init_108 (by decide) (by decide) (by omega) (by omega) (fun hc => ?_) (fun hc => ?_) <;> first | (exfalso; omega) | skip)
      | refine T_icmp_ge_t (tgt := 130) (pc := 108) k_S_init_108 rfl (by decide) ?_
      | refine T_icmp_ge_f (tgt := 130) (pc1 := 111) (pc := 108) k_S_init_108 rfl rfl (by decide) ?_
      | refine T_icmp_ge (tgt := 130) (pc1 := 111) (pc := 108) k_S_init_108 rfl rfl (fun hc => ?_) (fun hc => ?_)
      | refine T_getR (pc1 := 115) (pc := 112) k_S_init_112 rfl f_S_49 rfl (by repeat' first | assumption | exact al_A | refine pR_A ?_ | refine aL_A ?_) (by first | assumption | rfl) ?_
      | refine T_iload_n (pc1 := 116) (pc := 115) k_S_init_115 rfl rfl ?_
      | refine T_new (pc1 := 119) (pc := 116) k_S_init_116 rfl w_S_47 (by first | assumption | (simp only [gz_al, gz_p] at *; omega)) ?_
      | refine T_dup (pc1 := 120) (pc := 119) k_S_init_119 rfl rfl ?_
      | (refine T_cJ (As := []) (d1 := 1) (pc1 := 123) (pc := 120) k_S_init_120 rfl (by decide) (Nat.le_of_ble_eq_true rfl) rfl o_Sh_init l_S_67 rfl (c_Sh_init al_A (by simp only [gz_al, gz_p]; omega) ?_) <;> try dsimp only [psh])
      | (refine T_aast (e0 := 2) (ci := 3) (nc := 3) (pc1 := 124) (pc := 123) k_S_init_123 rfl rfl (pR_A (aL_A (aL_A hb))) (vp_in_nI (by omega) (by omega)) (pR_A (aL_A al_A)) ?_; rw [cb])
      | refine T_iincN (b := 1) (pc1 := 127) (pc := 124) k_S_init_124 rfl rfl (by decide) ?_
      | refine T_iinc (v := (nI 1)) (pc1 := 127) (pc := 124) k_S_init_124 rfl rfl (by decide) ?_
      | refine T_goto (tgt := 106) (pc := 127) k_S_init_127 rfl ?_)
    all_goals try (exfalso; omega)
    refine ih (s + 1) _ _ (by omega) (Bu_Sh (by omega) B) f1 ?_ (fun i hi => ?_) (fun t ht => ?_)
    · show gs g1 + 3 + 24 = _
      omega
    · simp only [gz_al, gz_p, hz]
      simp (disch := omega) only [pI_rw, va_up_ne, ne_eq]
      exact e1 i hi
    · simp only [gz_al, gz_p, hz]
      by_cases h : t = s
      · subst h
        unfold SHz
        rw [show 74 + 2 * t = 73 + 2 * t + 1 by omega]
        simp (disch := omega) only [pI_eq, pI_col, pI_row, va_here, va_up_ne, ne_eq]
        exact ⟨trivial, trivial, fun _ _ => trivial⟩
      · have v2 := v1 t (by omega)
        unfold SHz at *
        simp (disch := omega) only [pI_rw, va_up_ne, ne_eq]
        exact v2
set_option maxRecDepth 100000 in
theorem Si4 (kk : ∀ g' J, Bu 101 g' → g'.1 = g.1 → gs g' = gs g + 185 → (∀ i, i < 81 → J i = I i) → (∀ t, t < 5 → J (81 + 4 * t) 0 = nI 0) → K none g' J) : ∀ q s (g1 : Geo) (J : IM), s + q = 5 → Bu (81 + 4 * s) g1 → g1.1 = g.1 → gs g1 = gs g + 37 * s → (∀ i, i < 81 → J i = I i) → (∀ t, t < s → J (81 + 4 * t) 0 = nI 0) → Rl 3 M_S_init 132 [some (.ref 0), some (.int (nI s))] [] g1 J K := by
  intro q
  induction q with
  | zero =>
    intro s g1 J hs B f1 s1 e1 v1
    have hs : s = 5 := by omega
    subst hs
    repeat' (first
      | (refine T_iload_n (pc1 := 133) (pc := 132) k_S_init_132 rfl rfl ?_ <;> try (refine T_iconst (v := (nI 5)) (pc1 := 134) (pc := 133) k_S_init_133 rfl (by decide) ?_ <;> try ((first | (with_reducible refine T_icmp_geN (tgt := 156) (pc1 := 137) (pc := 134) k_S_init_134 (by decide) (by decide) (by omega) (by omega) (fun hc => ?_) (fun hc => ?_) <;> first | (exfalso; omega) | skip) | refine T_icmp_ge_t (tgt := 156) (pc := 134) k_S_init_134 rfl (by decide) ?_ | refine T_icmp_ge_f (tgt := 156) (pc1 := 137) (pc := 134) k_S_init_134 rfl rfl (by decide) ?_ | refine T_icmp_ge (tgt := 156) (pc1 := 137) (pc := 134) k_S_init_134 rfl rfl (fun hc => ?_) (fun hc => ?_)))))
      | (refine T_retV (pc := 156) k_S_init_156 rfl ?_)
      | refine T_iconst (v := (nI 5)) (pc1 := 134) (pc := 133) k_S_init_133 rfl (by decide) ?_
      | (with_reducible refine T_icmp_geN (tgt := 156) (pc1 := 137) (pc := 134) k_S_init_134 (by decide) (by decide) (by omega) (by omega) (fun hc => ?_) (fun hc => ?_) <;> first | (exfalso; omega) | skip)
      | refine T_icmp_ge_t (tgt := 156) (pc := 134) k_S_init_134 rfl (by decide) ?_
      | refine T_icmp_ge_f (tgt := 156) (pc1 := 137) (pc := 134) k_S_init_134 rfl rfl (by decide) ?_
      | refine T_icmp_ge (tgt := 156) (pc1 := 137) (pc := 134) k_S_init_134 rfl rfl (fun hc => ?_) (fun hc => ?_))
    exact kk g1 J B f1 s1 e1 v1
  | succ q ih =>
    intro s g1 J hs B f1 s1 e1 v1
    have hz := B.1
    have hzz : gz g1 < 1000000 := by omega
    have h0 : isAg g1 0 9 11 := ⟨by omega, B.2.1 0 (by omega)⟩
    have hr : gR g1 0 8 = some 71 := (B.2.2 0 8 (by omega)).trans (by rw [show R0 0 8 = some 71 from rfl, cut_s, if_pos (by omega)])
    have hb : isAg g1 71 (101 + 3) 5 := ⟨by omega, B.2.1 71 (by omega)⟩
    have cb : (nI s).toNatClampNeg = s := nI_clamp (by omega)
    have hb2 : isAg (slG (galloc g1 4 4) (gz g1)) 71 (101 + 3) 5 := by
      unfold slG
      exact pR_A (pR_A (aL_A (aL_A (pR_A (aL_A (aL_A hb))))))
    have hb3 : isAg (slG (galloc g1 4 4) (gz g1)) (gz g1) 4 4 := by
      unfold slG
      exact pR_A (pR_A (aL_A (aL_A (pR_A (aL_A al_A)))))
    refine T_iload_n (pc1 := 133) (pc := 132) k_S_init_132 rfl rfl ?_
    repeat' (first
      | (refine T_iconst (v := (nI 5)) (pc1 := 134) (pc := 133) k_S_init_133 rfl (by decide) ?_ <;> try ((first | (with_reducible refine T_icmp_geN (tgt := 156) (pc1 := 137) (pc := 134) k_S_init_134 (by decide) (by decide) (by omega) (by omega) (fun hc => ?_) (fun hc => ?_) <;> first | (exfalso; omega) | skip) | refine T_icmp_ge_t (tgt := 156) (pc := 134) k_S_init_134 rfl (by decide) ?_ | refine T_icmp_ge_f (tgt := 156) (pc1 := 137) (pc := 134) k_S_init_134 rfl rfl (by decide) ?_ | refine T_icmp_ge (tgt := 156) (pc1 := 137) (pc := 134) k_S_init_134 rfl rfl (fun hc => ?_) (fun hc => ?_))))
      | ((first | refine T_aload_n (pc1 := 138) (pc := 137) k_S_init_137 rfl rfl ?_ | refine T_aload_nN (pc1 := 138) (pc := 137) k_S_init_137 rfl rfl ?_) <;> try (refine T_getR (pc1 := 141) (pc := 138) k_S_init_138 rfl f_S_55 rfl (by repeat' first | assumption | exact al_A | refine pR_A ?_ | refine aL_A ?_) (by first | assumption | rfl) ?_ <;> try (refine T_iload_n (pc1 := 142) (pc := 141) k_S_init_141 rfl rfl ?_ <;> try (refine T_new (pc1 := 145) (pc := 142) k_S_init_142 rfl w_S_53 (by first | assumption | (simp only [gz_al, gz_p] at *; omega)) ?_ <;> try (refine T_dup (pc1 := 146) (pc := 145) k_S_init_145 rfl rfl ?_ <;> try ((refine T_cJ (As := []) (d1 := 2) (pc1 := 149) (pc := 146) k_S_init_146 rfl (by decide) (Nat.le_of_ble_eq_true rfl) rfl o_Sl_init l_S_68 rfl (c_Sl_init al_A (by simp only [gz_al, gz_p]; omega) ?_) <;> try dsimp only [psh]) <;> try ((refine T_aast (e0 := 3) (ci := 4) (nc := 4) (pc1 := 150) (pc := 149) k_S_init_149 rfl rfl hb2 (vp_in_nI (by omega) (by omega)) hb3 ?_; rw [cb]) <;> try ((first | refine T_iincN (b := 1) (pc1 := 153) (pc := 150) k_S_init_150 rfl rfl (by decide) ?_ | refine T_iinc (v := (nI 1)) (pc1 := 153) (pc := 150) k_S_init_150 rfl rfl (by decide) ?_) <;> try (refine T_goto (tgt := 132) (pc := 153) k_S_init_153 rfl ?_)))))))))
      | (with_reducible refine T_icmp_geN (tgt := 156) (pc1 := 137) (pc := 134) k_S_init_134 (by decide) (by decide) (by omega) (by omega) (fun hc => ?_) (fun hc => ?_) <;> first | (exfalso; omega) | skip)
      | refine T_icmp_ge_t (tgt := 156) (pc := 134) k_S_init_134 rfl (by decide) ?_
      | refine T_icmp_ge_f (tgt := 156) (pc1 := 137) (pc := 134) k_S_init_134 rfl rfl (by decide) ?_
      | refine T_icmp_ge (tgt := 156) (pc1 := 137) (pc := 134) k_S_init_134 rfl rfl (fun hc => ?_) (fun hc => ?_)
      | refine T_getR (pc1 := 141) (pc := 138) k_S_init_138 rfl f_S_55 rfl (by repeat' first | assumption | exact al_A | refine pR_A ?_ | refine aL_A ?_) (by first | assumption | rfl) ?_
      | refine T_iload_n (pc1 := 142) (pc := 141) k_S_init_141 rfl rfl ?_
      | refine T_new (pc1 := 145) (pc := 142) k_S_init_142 rfl w_S_53 (by first | assumption | (simp only [gz_al, gz_p] at *; omega)) ?_
      | refine T_dup (pc1 := 146) (pc := 145) k_S_init_145 rfl rfl ?_
      | (refine T_cJ (As := []) (d1 := 2) (pc1 := 149) (pc := 146) k_S_init_146 rfl (by decide) (Nat.le_of_ble_eq_true rfl) rfl o_Sl_init l_S_68 rfl (c_Sl_init al_A (by simp only [gz_al, gz_p]; omega) ?_) <;> try dsimp only [psh])
      | (refine T_aast (e0 := 3) (ci := 4) (nc := 4) (pc1 := 150) (pc := 149) k_S_init_149 rfl rfl hb2 (vp_in_nI (by omega) (by omega)) hb3 ?_; rw [cb])
      | refine T_iincN (b := 1) (pc1 := 153) (pc := 150) k_S_init_150 rfl rfl (by decide) ?_
      | refine T_iinc (v := (nI 1)) (pc1 := 153) (pc := 150) k_S_init_150 rfl rfl (by decide) ?_
      | refine T_goto (tgt := 132) (pc := 153) k_S_init_153 rfl ?_)
    all_goals try (exfalso; omega)
    refine ih (s + 1) _ _ (by omega) (Bu_Sl (by omega) B) f1 ?_ (fun i hi => ?_) (fun t ht => ?_)
    · show gs g1 + 4 + 6 + 3 + 24 = _
      omega
    · unfold slI
      simp only [gz_al, gz_p, hz]
      simp (disch := omega) only [pI_rw, va_up_ne, ne_eq]
      exact e1 i hi
    · unfold slI
      simp only [gz_al, gz_p, hz]
      by_cases h : t = s
      · subst h
        simp (disch := omega) only [pI_eq, pI_col, pI_row, va_here, va_up_ne, ne_eq]
      · simp (disch := omega) only [pI_rw, va_up_ne, ne_eq]
        exact v1 t (by omega)
/-- what the constructor of the class leaves -/
def S0 (g0 g : Geo) (J : IM) : Prop := Bu 101 g ∧ g.1 = g0.1 ∧ gs g = gs g0 + 1232 ∧ J 0 2 = nI 0 ∧ J 0 10 = nI 0 ∧ J 67 1 = nI 0 ∧ VLd 1 J ∧ (∀ t, t < 4 → SHz J t) ∧ ∀ t, t < 5 → J (81 + 4 * t) 0 = nI 0
theorem c_S_init (h : Bu 1 g) (kk : ∀ g' J, S0 g g' J → K none g' J) : Cl 3 M_S_init [.ref 0] g I K := by
  show Rl 3 M_S_init 0 [some (.ref 0), none] [] g I K
  refine Si1 h fun g1 J1 b1 f1 s1 u1 v1 => Si2 b1 fun g2 J2 b2 f2 s2 u2 w2 x2 y2 => ?_
  refine Si3 (g := g2) (I := J2) (fun g3 J3 b3 f3 s3 e3 v3 => ?_) 4 0 g2 J2 rfl b2 rfl rfl (fun _ _ => rfl) (fun t ht => by omega)
  repeat' (first
    | (refine T_iconst (v := (nI 0)) (pc1 := 131) (pc := 130) k_S_init_130 rfl (by decide) ?_ <;> try (refine T_istore_n (pc1 := 132) (pc := 131) k_S_init_131 rfl (Nat.le_of_ble_eq_true rfl) ?_))
    | refine T_istore_n (pc1 := 132) (pc := 131) k_S_init_131 rfl (Nat.le_of_ble_eq_true rfl) ?_)
  refine Si4 (g := g3) (I := J3) (fun g4 J4 b4 f4 s4 e4 v4 => ?_) 5 0 g3 J3 rfl b3 rfl rfl (fun _ _ => rfl) (fun t ht => by omega)
  refine kk g4 J4 ⟨b4, f4.trans (f3.trans (f2.trans f1)), by omega, ?_, ?_, ?_, ?_, fun t ht => ?_, v4⟩
  · rw [e4 0 (by omega), e3 0 (by omega), x2]; exact u1
  · rw [e4 0 (by omega), e3 0 (by omega)]; exact u2
  · rw [e4 67 (by omega), e3 67 (by omega)]; exact w2
  · exact VLd_to v1 fun i h1 h2 => by rw [e4 i (by omega), e3 i (by omega), y2 i (by omega) (by omega)]
  · have q := v3 t ht
    unfold SHz at *
    rw [e4 (73 + 2 * t) (by omega), e4 (74 + 2 * t) (by omega)]
    exact q
end I8
