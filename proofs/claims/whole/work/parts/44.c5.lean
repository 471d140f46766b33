/-! The class: a walk. -/
section PC3
theorem or_tst {F b j : Nat} : (F ||| 2 ^ b) / 2 ^ j % 2 = 1 ↔ (F / 2 ^ j % 2 = 1 ∨ j = b) := by
  have h : ∀ x i : Nat, (x / 2 ^ i % 2 = 1) ↔ x.testBit i = true := fun x i => by
    rw [Nat.testBit_eq_decide_div_mod_eq, decide_eq_true_eq]
  rw [h, h, Nat.testBit_or, Bool.or_eq_true, Nat.testBit_two_pow, decide_eq_true_eq]
  exact ⟨fun q => q.imp id Eq.symm, fun q => q.imp id Eq.symm⟩
theorem cst_go {N : Row} {n tn F b tr j : Nat} (ok : okL N n tn) (hb : b < n) (hj : j < n) (ht : tr < 60) (h : j ≠ b) : cst (goN N tn b tr) tn F j = cst N tn F j := by
  have h14 := ok.2.1
  unfold cst thk
  rw [thI_agr (goN_agr (by omega) (by omega) ht h)]
theorem cst_up {N : Row} {n tn F i j : Nat} {v : Int32} (ok : okL N n tn) (hj : j < n) (hi : 96 ≤ i ∧ i < 156) : cst (va_up N i v) tn F j = cst N tn F j := by
  have h14 := ok.2.1
  unfold cst thk
  rw [thI_agr (agr_up hi (by omega))]
theorem ed_go {N : Row} {n tn b tr j : Nat} (ok : okL N n tn) (hb : b < n) (hj : j < n) : ed (goN N tn b tr) j = ed N j := by
  have h14 := ok.2.1
  unfold ed
  rw [goN_bf (by omega) (by omega) (by decide) (Or.inr (by decide)), goN_bf (by omega) (by omega) (by decide) (Or.inr (by decide))]
theorem ed_up {N : Row} {n tn i j : Nat} {v : Int32} (ok : okL N n tn) (hj : j < n) (hi : 96 ≤ i ∧ i < 156) : ed (va_up N i v) j = ed N j := by
  have h14 := ok.2.1
  exact ed_agr (agr_up hi (by omega))
end PC3
section C5
variable {g : Geo} {I : IM} {K : Option Value → Geo → IM → Prop}
theorem c_B_endV {i o t s v : Nat} (hb : isAg g i 0 6) (h1 : I i 1 = nI o) (h2 : I i 2 = nI t) (ho : o < 8) (ht : t < 8) (hs : s < 8) (hv : (if o = s then t else o) = v) (kk : K (some (.int (nI v))) g I) : Cl 1 M_B_endFrom [.ref i, .int (nI s)] g I K := c_B_endFrom hb h1 h2 ho ht hs (by rw [hv]; exact kk)
set_option maxHeartbeats 4000000 in
theorem c_Wr_firstBit {a n tn at0 to0 : Nat} {N : Row} {c : Nf} (G : GeoOK g) (LG : LandG g a) (ok : okL N n tn) (LB : LBt I a N n) (ha : at0 < 8) (hC : ∀ b, b < n → I 64 b = nI (c b)) (hcb : ∀ b, b < n → c b ≤ 1998) (hD : ∀ v, v < 8 → I 65 v = nI (dst (ed N) c n to0 v)) (kk : K (some (.int (oNo (nxt N n c at0 to0)))) g I) : Cl 2 M_Wr_firstBit [.ref 63, .ref a, .int (nI at0)] g I K := by
  show Rl 2 M_Wr_firstBit 0 [some (.ref 63), some (.ref a), some (.int (nI at0)), none, none] [] g I K
  obtain ⟨h5, h14, -⟩ := id ok
  obtain ⟨g1, g2, g3, g4, g5, g6, g7, g8, g9, g10, g11, g12, g13, g14⟩ := id LG
  obtain ⟨b1, b2, b3, b4⟩ := id LB
  have he := okL_E ok
  have hat := hD at0 ha
  have hle := dst_le (c := c) (goal := to0) he at0
  unfold nxt at kk
  by_cases hlt : dst (ed N) c n to0 at0 < 1000000
  · rw [if_pos hlt] at kk
    have loop : ∀ q b o4, b + q = n → lsq (fbP (ed N) c (dst (ed N) c n to0) at0) 0 n = lsq (fbP (ed N) c (dst (ed N) c n to0) at0) b q → Rl 2 M_Wr_firstBit 16 [some (.ref 63), some (.ref a), some (.int (nI at0)), some (.int (nI b)), o4] [] g I K := by
      intro q
      induction q with
      | zero =>
        intro b o4 hb hl
        have hb : b = n := by omega
        subst hb
        rw [hl] at kk
        repeat' (first
          | (refine T_iload_n (pc1 := 17) (pc := 16) k_Wr_firstBit_16 rfl rfl ?_ <;> try ((first | refine T_aload_n (pc1 := 18) (pc := 17) k_Wr_firstBit_17 rfl rfl ?_ | refine T_aload_nN (pc1 := 18) (pc := 17) k_Wr_firstBit_17 rfl rfl ?_) <;> try (refine T_getV (pc1 := 21) (pc := 18) k_Wr_firstBit_18 rfl f_Wr_107 rfl (by first | assumption | exact ga G (by decide) rfl | exact lgA LG (by omega)) (by first | assumption | (simp (disch := omega) only [pI_eq, pI_row, pI_col, va_up_self, va_up_ne, ne_eq, not_false_eq_true] <;> rfl) | rfl) ?_ <;> try ((first | (with_reducible refine T_icmp_geN (tgt := 85) (pc1 := 24) (pc := 21) k_Wr_firstBit_21 (by decide) (by decide) (by omega) (by omega) (fun hc => ?_) (fun hc => ?_) <;> first | (exfalso; omega) | skip) | refine T_icmp_ge_t (tgt := 85) (pc := 21) k_Wr_firstBit_21 rfl (by decide) ?_ | refine T_icmp_ge_f (tgt := 85) (pc1 := 24) (pc := 21) k_Wr_firstBit_21 rfl rfl (by decide) ?_ | refine T_icmp_ge (tgt := 85) (pc1 := 24) (pc := 21) k_Wr_firstBit_21 rfl rfl (fun hc => ?_) (fun hc => ?_))))))
          | (refine T_ldc (v := (-1000000005)) (pc1 := 87) (pc := 85) k_Wr_firstBit_85 rfl c_Wr_49 ?_ <;> try (refine T_retI (pc := 87) k_Wr_firstBit_87 rfl (by first | rfl | decide | assumption) ?_))
          | refine T_aload_n (pc1 := 18) (pc := 17) k_Wr_firstBit_17 rfl rfl ?_
          | refine T_aload_nN (pc1 := 18) (pc := 17) k_Wr_firstBit_17 rfl rfl ?_
          | refine T_getV (pc1 := 21) (pc := 18) k_Wr_firstBit_18 rfl f_Wr_107 rfl (by first | assumption | exact ga G (by decide) rfl | exact lgA LG (by omega)) (by first | assumption | (simp (disch := omega) only [pI_eq, pI_row, pI_col, va_up_self, va_up_ne, ne_eq, not_false_eq_true] <;> rfl) | rfl) ?_
          | (with_reducible refine T_icmp_geN (tgt := 85) (pc1 := 24) (pc := 21) k_Wr_firstBit_21 (by decide) (by decide) (by omega) (by omega) (fun hc => ?_) (fun hc => ?_) <;> first | (exfalso; omega) | skip)
          | refine T_icmp_ge_t (tgt := 85) (pc := 21) k_Wr_firstBit_21 rfl (by decide) ?_
          | refine T_icmp_ge_f (tgt := 85) (pc1 := 24) (pc := 21) k_Wr_firstBit_21 rfl rfl (by decide) ?_
          | refine T_icmp_ge (tgt := 85) (pc1 := 24) (pc := 21) k_Wr_firstBit_21 rfl rfl (fun hc => ?_) (fun hc => ?_)
          | refine T_retI (pc := 87) k_Wr_firstBit_87 rfl (by first | rfl | decide | assumption) ?_)
        exact kk
      | succ q ih =>
        intro b o4 hb hl
        have hbn : b < n := by omega
        have c64 := hC b hbn
        have hcl := hcb b hbn
        have gb := lgA LG (show b < 14 by omega)
        obtain ⟨k, o, t, l, rr, -, -, h1, ho, h2, ht, hne, -⟩ := ok.2.2.2.2.1 b hbn
        have e1 : (ed N b).1 = o := by unfold ed; rw [h1]; exact nI_clamp (by omega)
        have e2 : (ed N b).2 = t := by unfold ed; rw [h2]; exact nI_clamp (by omega)
        have f1 : I (a + 6 + b) 1 = nI o := (b4 b hbn 1 (by decide)).trans h1
        have f2 : I (a + 6 + b) 2 = nI t := (b4 b hbn 2 (by decide)).trans h2
        have dle := fun v => dst_le (c := c) (goal := to0) he v
        have fb := @fbP_iff (ed N) c (dst (ed N) c n to0) at0 b
        rw [e1, e2] at fb
        have el : lsq (fbP (ed N) c (dst (ed N) c n to0) at0) b (q + 1) = if fbP (ed N) c (dst (ed N) c n to0) at0 b = true then some b else lsq (fbP (ed N) c (dst (ed N) c n to0) at0) (b + 1) q := rfl
        rw [el] at hl
        have yes : (c b ≠ 0 ∧ ((o = at0 ∧ dst (ed N) c n to0 t + c b = dst (ed N) c n to0 at0) ∨ (o ≠ at0 ∧ t = at0 ∧ dst (ed N) c n to0 o + c b = dst (ed N) c n to0 at0))) → K (some (.int (nI b))) g I := fun h => by
          rw [if_pos (fb.mpr h)] at hl
          rw [hl] at kk
          exact kk
        have no : ¬ (c b ≠ 0 ∧ ((o = at0 ∧ dst (ed N) c n to0 t + c b = dst (ed N) c n to0 at0) ∨ (o ≠ at0 ∧ t = at0 ∧ dst (ed N) c n to0 o + c b = dst (ed N) c n to0 at0))) → ∀ o4, Rl 2 M_Wr_firstBit 16 [some (.ref 63), some (.ref a), some (.int (nI at0)), some (.int (nI (b + 1))), o4] [] g I K := fun h o4 => by
          rw [if_neg (fun q => h (fb.mp q))] at hl
          exact ih (b + 1) o4 (by omega) hl
        have d1 := hD o ho
        have d2 := hD t ht
        have m1 := dle o
        have m2 := dle t
        clear ih hl el fb
        generalize dst (ed N) c n to0 o = Do at *
        generalize dst (ed N) c n to0 t = Dt at *
        generalize dst (ed N) c n to0 at0 = Da at *
        refine T_iload_n (pc1 := 17) (pc := 16) k_Wr_firstBit_16 rfl rfl ?_
        by_cases ho1 : o = at0
        · have hev : (if o = at0 then t else o) = t := if_pos ho1
          repeat' (first
            | ((first | refine T_aload_n (pc1 := 18) (pc := 17) k_Wr_firstBit_17 rfl rfl ?_ | refine T_aload_nN (pc1 := 18) (pc := 17) k_Wr_firstBit_17 rfl rfl ?_) <;> try (refine T_getV (pc1 := 21) (pc := 18) k_Wr_firstBit_18 rfl f_Wr_107 rfl (by first | assumption | exact ga G (by decide) rfl | exact lgA LG (by omega)) (by first | assumption | (simp (disch := omega) only [pI_eq, pI_row, pI_col, va_up_self, va_up_ne, ne_eq, not_false_eq_true] <;> rfl) | rfl) ?_ <;> try ((first | (with_reducible refine T_icmp_geN (tgt := 85) (pc1 := 24) (pc := 21) k_Wr_firstBit_21 (by decide) (by decide) (by omega) (by omega) (fun hc => ?_) (fun hc => ?_) <;> first | (exfalso; omega) | skip) | refine T_icmp_ge_t (tgt := 85) (pc := 21) k_Wr_firstBit_21 rfl (by decide) ?_ | refine T_icmp_ge_f (tgt := 85) (pc1 := 24) (pc := 21) k_Wr_firstBit_21 rfl rfl (by decide) ?_ | refine T_icmp_ge (tgt := 85) (pc1 := 24) (pc := 21) k_Wr_firstBit_21 rfl rfl (fun hc => ?_) (fun hc => ?_)))))
            | ((first | refine T_aload_n (pc1 := 25) (pc := 24) k_Wr_firstBit_24 rfl rfl ?_ | refine T_aload_nN (pc1 := 25) (pc := 24) k_Wr_firstBit_24 rfl rfl ?_) <;> try (refine T_getR (pc1 := 28) (pc := 25) k_Wr_firstBit_25 rfl f_Wr_66 rfl (by first | assumption | exact ga G (by decide) rfl | exact lgA LG (by omega)) (by first | assumption | exact gr G (by decide) rfl | exact lgR LG (by omega)) ?_ <;> try (refine T_iload_n (pc1 := 29) (pc := 28) k_Wr_firstBit_28 rfl rfl ?_ <;> try ((first | refine T_aaldQ (e0 := 4) (pc1 := 30) (pc := 29) k_Wr_firstBit_29 rfl (by first | assumption | exact ga G (by decide) rfl | exact lgA LG (by omega)) (by decide) (by omega) (by omega) (by first | assumption | exact gr G (by decide) rfl | exact lgR LG (by omega)) ?_ | refine T_aaldQ (e0 := 0) (pc1 := 30) (pc := 29) k_Wr_firstBit_29 rfl (by first | assumption | exact ga G (by decide) rfl | exact lgA LG (by omega)) (by decide) (by omega) (by omega) (by first | assumption | exact gr G (by decide) rfl | exact lgR LG (by omega)) ?_ | refine T_aaldQ (e0 := 1) (pc1 := 30) (pc := 29) k_Wr_firstBit_29 rfl (by first | assumption | exact ga G (by decide) rfl | exact lgA LG (by omega)) (by decide) (by omega) (by omega) (by first | assumption | exact gr G (by decide) rfl | exact lgR LG (by omega)) ?_ | refine T_aaldQ (e0 := 2) (pc1 := 30) (pc := 29) k_Wr_firstBit_29 rfl (by first | assumption | exact ga G (by decide) rfl | exact lgA LG (by omega)) (by decide) (by omega) (by omega) (by first | assumption | exact gr G (by decide) rfl | exact lgR LG (by omega)) ?_ | refine T_aaldQ (e0 := 3) (pc1 := 30) (pc := 29) k_Wr_firstBit_29 rfl (by first | assumption | exact ga G (by decide) rfl | exact lgA LG (by omega)) (by decide) (by omega) (by omega) (by first | assumption | exact gr G (by decide) rfl | exact lgR LG (by omega)) ?_) <;> try ((first | refine T_astore (pc1 := 32) (pc := 30) k_Wr_firstBit_30 rfl (Nat.le_of_ble_eq_true rfl) ?_ | refine T_astoreN (pc1 := 32) (pc := 30) k_Wr_firstBit_30 rfl (Nat.le_of_ble_eq_true rfl) ?_) <;> try ((first | refine T_aload_n (pc1 := 33) (pc := 32) k_Wr_firstBit_32 rfl rfl ?_ | refine T_aload_nN (pc1 := 33) (pc := 32) k_Wr_firstBit_32 rfl rfl ?_) <;> try (refine T_getR (pc1 := 36) (pc := 33) k_Wr_firstBit_33 rfl f_Wr_9 rfl (by first | assumption | exact ga G (by decide) rfl | exact lgA LG (by omega)) (by first | assumption | exact gr G (by decide) rfl | exact lgR LG (by omega)) ?_ <;> try (refine T_iload_n (pc1 := 37) (pc := 36) k_Wr_firstBit_36 rfl rfl ?_ <;> try ((first | refine T_ialdN (pc1 := 38) (pc := 37) k_Wr_firstBit_37 rfl (by first | assumption | exact ga G (by decide) rfl | exact lgA LG (by omega)) (by omega) (by omega) (by first | assumption | (simp (disch := omega) only [pI_eq, pI_row, pI_col, va_up_self, va_up_ne, ne_eq, not_false_eq_true] <;> rfl) | rfl) ?_ | refine T_iald (pc1 := 38) (pc := 37) k_Wr_firstBit_37 rfl (by first | assumption | exact ga G (by decide) rfl | exact lgA LG (by omega)) (by assumption) ?_) <;> try ((first | (with_reducible refine T_if_eqN (tgt := 79) (pc1 := 41) (pc := 38) k_Wr_firstBit_38 (by decide) (by decide) (by omega) (fun hc => ?_) (fun hc => ?_) <;> first | (exfalso; omega) | skip) | refine T_if_eq_t (tgt := 79) (pc := 38) k_Wr_firstBit_38 rfl (by decide) ?_ | refine T_if_eq_f (tgt := 79) (pc1 := 41) (pc := 38) k_Wr_firstBit_38 rfl rfl (by decide) ?_ | refine T_if_eq (tgt := 79) (pc1 := 41) (pc := 38) k_Wr_firstBit_38 rfl rfl (fun hc => ?_) (fun hc => ?_))))))))))))
            | ((first | refine T_aload (pc1 := 43) (pc := 41) k_Wr_firstBit_41 rfl rfl ?_ | refine T_aloadN (pc1 := 43) (pc := 41) k_Wr_firstBit_41 rfl rfl ?_) <;> try (refine T_iload_n (pc1 := 44) (pc := 43) k_Wr_firstBit_43 rfl rfl ?_ <;> try ((refine T_cV (As := [_]) (d1 := 1) (pc1 := 47) (pc := 44) k_Wr_firstBit_44 rfl (by decide) (Nat.le_of_ble_eq_true rfl) rfl o_B_touches l_Wr_110 rfl (by first | assumption | exact ga G (by decide) rfl | exact lgA LG (by omega)) rfl (c_B_touches gb f1 f2 ho ht ha (fun ht1 => ?_) (fun ht1 => ?_)) <;> try dsimp only [psh]) <;> try ((first | (with_reducible refine T_if_eqN (tgt := 79) (pc1 := 50) (pc := 47) k_Wr_firstBit_47 (by decide) (by decide) (by omega) (fun hc => ?_) (fun hc => ?_) <;> first | (exfalso; omega) | skip) | refine T_if_eq_t (tgt := 79) (pc := 47) k_Wr_firstBit_47 rfl (by decide) ?_ | refine T_if_eq_f (tgt := 79) (pc1 := 50) (pc := 47) k_Wr_firstBit_47 rfl rfl (by decide) ?_ | refine T_if_eq (tgt := 79) (pc1 := 50) (pc := 47) k_Wr_firstBit_47 rfl rfl (fun hc => ?_) (fun hc => ?_))))))
            | ((first | refine T_aload_n (pc1 := 51) (pc := 50) k_Wr_firstBit_50 rfl rfl ?_ | refine T_aload_nN (pc1 := 51) (pc := 50) k_Wr_firstBit_50 rfl rfl ?_) <;> try (refine T_getR (pc1 := 54) (pc := 51) k_Wr_firstBit_51 rfl f_Wr_15 rfl (by first | assumption | exact ga G (by decide) rfl | exact lgA LG (by omega)) (by first | assumption | exact gr G (by decide) rfl | exact lgR LG (by omega)) ?_ <;> try ((first | refine T_aload (pc1 := 56) (pc := 54) k_Wr_firstBit_54 rfl rfl ?_ | refine T_aloadN (pc1 := 56) (pc := 54) k_Wr_firstBit_54 rfl rfl ?_) <;> try (refine T_iload_n (pc1 := 57) (pc := 56) k_Wr_firstBit_56 rfl rfl ?_ <;> try ((refine T_cV (As := [_]) (d1 := 1) (pc1 := 60) (pc := 57) k_Wr_firstBit_57 rfl (by decide) (Nat.le_of_ble_eq_true rfl) rfl o_B_endFrom l_Wr_87 rfl (by first | assumption | exact ga G (by decide) rfl | exact lgA LG (by omega)) rfl (c_B_endV gb f1 f2 ho ht ha hev ?_) <;> try dsimp only [psh]) <;> try ((first | refine T_ialdN (pc1 := 61) (pc := 60) k_Wr_firstBit_60 rfl (by first | assumption | exact ga G (by decide) rfl | exact lgA LG (by omega)) (by omega) (by omega) (by first | assumption | (simp (disch := omega) only [pI_eq, pI_row, pI_col, va_up_self, va_up_ne, ne_eq, not_false_eq_true] <;> rfl) | rfl) ?_ | refine T_iald (pc1 := 61) (pc := 60) k_Wr_firstBit_60 rfl (by first | assumption | exact ga G (by decide) rfl | exact lgA LG (by omega)) (by assumption) ?_) <;> try ((first | refine T_aload_n (pc1 := 62) (pc := 61) k_Wr_firstBit_61 rfl rfl ?_ | refine T_aload_nN (pc1 := 62) (pc := 61) k_Wr_firstBit_61 rfl rfl ?_) <;> try (refine T_getR (pc1 := 65) (pc := 62) k_Wr_firstBit_62 rfl f_Wr_9 rfl (by first | assumption | exact ga G (by decide) rfl | exact lgA LG (by omega)) (by first | assumption | exact gr G (by decide) rfl | exact lgR LG (by omega)) ?_ <;> try (refine T_iload_n (pc1 := 66) (pc := 65) k_Wr_firstBit_65 rfl rfl ?_ <;> try ((first | refine T_ialdN (pc1 := 67) (pc := 66) k_Wr_firstBit_66 rfl (by first | assumption | exact ga G (by decide) rfl | exact lgA LG (by omega)) (by omega) (by omega) (by first | assumption | (simp (disch := omega) only [pI_eq, pI_row, pI_col, va_up_self, va_up_ne, ne_eq, not_false_eq_true] <;> rfl) | rfl) ?_ | refine T_iald (pc1 := 67) (pc := 66) k_Wr_firstBit_66 rfl (by first | assumption | exact ga G (by decide) rfl | exact lgA LG (by omega)) (by assumption) ?_) <;> try ((first | with_reducible refine T_iaddN (pc1 := 68) (pc := 67) k_Wr_firstBit_67 (by decide) ?_ | refine T_iadd (pc1 := 68) (pc := 67) k_Wr_firstBit_67 rfl ?_) <;> try ((first | refine T_aload_n (pc1 := 69) (pc := 68) k_Wr_firstBit_68 rfl rfl ?_ | refine T_aload_nN (pc1 := 69) (pc := 68) k_Wr_firstBit_68 rfl rfl ?_) <;> try (refine T_getR (pc1 := 72) (pc := 69) k_Wr_firstBit_69 rfl f_Wr_15 rfl (by first | assumption | exact ga G (by decide) rfl | exact lgA LG (by omega)) (by first | assumption | exact gr G (by decide) rfl | exact lgR LG (by omega)) ?_ <;> try (refine T_iload_n (pc1 := 73) (pc := 72) k_Wr_firstBit_72 rfl rfl ?_))))))))))))))
            | ((first | refine T_ialdN (pc1 := 74) (pc := 73) k_Wr_firstBit_73 rfl (by first | assumption | exact ga G (by decide) rfl | exact lgA LG (by omega)) (by omega) (by omega) (by first | assumption | (simp (disch := omega) only [pI_eq, pI_row, pI_col, va_up_self, va_up_ne, ne_eq, not_false_eq_true] <;> rfl) | rfl) ?_ | refine T_iald (pc1 := 74) (pc := 73) k_Wr_firstBit_73 rfl (by first | assumption | exact ga G (by decide) rfl | exact lgA LG (by omega)) (by assumption) ?_) <;> try ((first | (with_reducible refine T_icmp_neN (tgt := 79) (pc1 := 77) (pc := 74) k_Wr_firstBit_74 (by decide) (by decide) (by omega) (by omega) (fun hc => ?_) (fun hc => ?_) <;> first | (exfalso; omega) | skip) | refine T_icmp_ne_t (tgt := 79) (pc := 74) k_Wr_firstBit_74 rfl (by decide) ?_ | refine T_icmp_ne_f (tgt := 79) (pc1 := 77) (pc := 74) k_Wr_firstBit_74 rfl rfl (by decide) ?_ | refine T_icmp_ne (tgt := 79) (pc1 := 77) (pc := 74) k_Wr_firstBit_74 rfl rfl (fun hc => ?_) (fun hc => ?_))))
            | (refine T_iload_n (pc1 := 78) (pc := 77) k_Wr_firstBit_77 rfl rfl ?_ <;> try (refine T_retI (pc := 78) k_Wr_firstBit_78 rfl (by first | rfl | decide | assumption) ?_))
            | ((first | refine T_iincN (b := 1) (pc1 := 82) (pc := 79) k_Wr_firstBit_79 rfl rfl (by decide) ?_ | refine T_iinc (v := (nI 1)) (pc1 := 82) (pc := 79) k_Wr_firstBit_79 rfl rfl (by decide) ?_) <;> try (refine T_goto (tgt := 16) (pc := 82) k_Wr_firstBit_82 rfl ?_))
            | refine T_getV (pc1 := 21) (pc := 18) k_Wr_firstBit_18 rfl f_Wr_107 rfl (by first | assumption | exact ga G (by decide) rfl | exact lgA LG (by omega)) (by first | assumption | (simp (disch := omega) only [pI_eq, pI_row, pI_col, va_up_self, va_up_ne, ne_eq, not_false_eq_true] <;> rfl) | rfl) ?_
            | (with_reducible refine T_icmp_geN (tgt := 85) (pc1 := 24) (pc := 21) k_Wr_firstBit_21 (by decide) (by decide) (by omega) (by omega) (fun hc => ?_) (fun hc => ?_) <;> first | (exfalso; omega) | skip)
            | refine T_icmp_ge_t (tgt := 85) (pc := 21) k_Wr_firstBit_21 rfl (by decide) ?_
            | refine T_icmp_ge_f (tgt := 85) (pc1 := 24) (pc := 21) k_Wr_firstBit_21 rfl rfl (by decide) ?_
            | refine T_icmp_ge (tgt := 85) (pc1 := 24) (pc := 21) k_Wr_firstBit_21 rfl rfl (fun hc => ?_) (fun hc => ?_)
            | refine T_getR (pc1 := 28) (pc := 25) k_Wr_firstBit_25 rfl f_Wr_66 rfl (by first | assumption | exact ga G (by decide) rfl | exact lgA LG (by omega)) (by first | assumption | exact gr G (by decide) rfl | exact lgR LG (by omega)) ?_
            | refine T_iload_n (pc1 := 29) (pc := 28) k_Wr_firstBit_28 rfl rfl ?_
            | refine T_aaldQ (e0 := 4) (pc1 := 30) (pc := 29) k_Wr_firstBit_29 rfl (by first | assumption | exact ga G (by decide) rfl | exact lgA LG (by omega)) (by decide) (by omega) (by omega) (by first | assumption | exact gr G (by decide) rfl | exact lgR LG (by omega)) ?_
            | refine T_aaldQ (e0 := 0) (pc1 := 30) (pc := 29) k_Wr_firstBit_29 rfl (by first | assumption | exact ga G (by decide) rfl | exact lgA LG (by omega)) (by decide) (by omega) (by omega) (by first | assumption | exact gr G (by decide) rfl | exact lgR LG (by omega)) ?_
            | refine T_aaldQ (e0 := 1) (pc1 := 30) (pc := 29) k_Wr_firstBit_29 rfl (by first | assumption | exact ga G (by decide) rfl | exact lgA LG (by omega)) (by decide) (by omega) (by omega) (by first | assumption | exact gr G (by decide) rfl | exact lgR LG (by omega)) ?_
            | refine T_aaldQ (e0 := 2) (pc1 := 30) (pc := 29) k_Wr_firstBit_29 rfl (by first | assumption | exact ga G (by decide) rfl | exact lgA LG (by omega)) (by decide) (by omega) (by omega) (by first | assumption | exact gr G (by decide) rfl | exact lgR LG (by omega)) ?_
            | refine T_aaldQ (e0 := 3) (pc1 := 30) (pc := 29) k_Wr_firstBit_29 rfl (by first | assumption | exact ga G (by decide) rfl | exact lgA LG (by omega)) (by decide) (by omega) (by omega) (by first | assumption | exact gr G (by decide) rfl | exact lgR LG (by omega)) ?_
            | refine T_astore (pc1 := 32) (pc := 30) k_Wr_firstBit_30 rfl (Nat.le_of_ble_eq_true rfl) ?_
            | refine T_astoreN (pc1 := 32) (pc := 30) k_Wr_firstBit_30 rfl (Nat.le_of_ble_eq_true rfl) ?_
            | refine T_aload_n (pc1 := 33) (pc := 32) k_Wr_firstBit_32 rfl rfl ?_
            | refine T_aload_nN (pc1 := 33) (pc := 32) k_Wr_firstBit_32 rfl rfl ?_
            | refine T_getR (pc1 := 36) (pc := 33) k_Wr_firstBit_33 rfl f_Wr_9 rfl (by first | assumption | exact ga G (by decide) rfl | exact lgA LG (by omega)) (by first | assumption | exact gr G (by decide) rfl | exact lgR LG (by omega)) ?_
            | refine T_iload_n (pc1 := 37) (pc := 36) k_Wr_firstBit_36 rfl rfl ?_
            | refine T_ialdN (pc1 := 38) (pc := 37) k_Wr_firstBit_37 rfl (by first | assumption | exact ga G (by decide) rfl | exact lgA LG (by omega)) (by omega) (by omega) (by first | assumption | (simp (disch := omega) only [pI_eq, pI_row, pI_col, va_up_self, va_up_ne, ne_eq, not_false_eq_true] <;> rfl) | rfl) ?_
            | refine T_iald (pc1 := 38) (pc := 37) k_Wr_firstBit_37 rfl (by first | assumption | exact ga G (by decide) rfl | exact lgA LG (by omega)) (by assumption) ?_
            | (with_reducible refine T_if_eqN (tgt := 79) (pc1 := 41) (pc := 38) k_Wr_firstBit_38 (by decide) (by decide) (by omega) (fun hc => ?_) (fun hc => ?_) <;> first | (exfalso; omega) | skip)
            | refine T_if_eq_t (tgt := 79) (pc := 38) k_Wr_firstBit_38 rfl (by decide) ?_
            | refine T_if_eq_f (tgt := 79) (pc1 := 41) (pc := 38) k_Wr_firstBit_38 rfl rfl (by decide) ?_
            | refine T_if_eq (tgt := 79) (pc1 := 41) (pc := 38) k_Wr_firstBit_38 rfl rfl (fun hc => ?_) (fun hc => ?_)
            | refine T_iload_n (pc1 := 44) (pc := 43) k_Wr_firstBit_43 rfl rfl ?_
            | (refine T_cV (As := [_]) (d1 := 1) (pc1 := 47) (pc := 44) k_Wr_firstBit_44 rfl (by decide) (Nat.le_of_ble_eq_true rfl) rfl o_B_touches l_Wr_110 rfl (by first | assumption | exact ga G (by decide) rfl | exact lgA LG (by omega)) rfl (c_B_touches gb f1 f2 ho ht ha (fun ht1 => ?_) (fun ht1 => ?_)) <;> try dsimp only [psh])
            | (with_reducible refine T_if_eqN (tgt := 79) (pc1 := 50) (pc := 47) k_Wr_firstBit_47 (by decide) (by decide) (by omega) (fun hc => ?_) (fun hc => ?_) <;> first | (exfalso; omega) | skip)
            | refine T_if_eq_t (tgt := 79) (pc := 47) k_Wr_firstBit_47 rfl (by decide) ?_
            | refine T_if_eq_f (tgt := 79) (pc1 := 50) (pc := 47) k_Wr_firstBit_47 rfl rfl (by decide) ?_
            | refine T_if_eq (tgt := 79) (pc1 := 50) (pc := 47) k_Wr_firstBit_47 rfl rfl (fun hc => ?_) (fun hc => ?_)
            | refine T_getR (pc1 := 54) (pc := 51) k_Wr_firstBit_51 rfl f_Wr_15 rfl (by first | assumption | exact ga G (by decide) rfl | exact lgA LG (by omega)) (by first | assumption | exact gr G (by decide) rfl | exact lgR LG (by omega)) ?_
            | refine T_aload (pc1 := 56) (pc := 54) k_Wr_firstBit_54 rfl rfl ?_
            | refine T_aloadN (pc1 := 56) (pc := 54) k_Wr_firstBit_54 rfl rfl ?_
            | refine T_iload_n (pc1 := 57) (pc := 56) k_Wr_firstBit_56 rfl rfl ?_
            | (refine T_cV (As := [_]) (d1 := 1) (pc1 := 60) (pc := 57) k_Wr_firstBit_57 rfl (by decide) (Nat.le_of_ble_eq_true rfl) rfl o_B_endFrom l_Wr_87 rfl (by first | assumption | exact ga G (by decide) rfl | exact lgA LG (by omega)) rfl (c_B_endV gb f1 f2 ho ht ha hev ?_) <;> try dsimp only [psh])
            | refine T_ialdN (pc1 := 61) (pc := 60) k_Wr_firstBit_60 rfl (by first | assumption | exact ga G (by decide) rfl | exact lgA LG (by omega)) (by omega) (by omega) (by first | assumption | (simp (disch := omega) only [pI_eq, pI_row, pI_col, va_up_self, va_up_ne, ne_eq, not_false_eq_true] <;> rfl) | rfl) ?_
            | refine T_iald (pc1 := 61) (pc := 60) k_Wr_firstBit_60 rfl (by first | assumption | exact ga G (by decide) rfl | exact lgA LG (by omega)) (by assumption) ?_
            | refine T_aload_n (pc1 := 62) (pc := 61) k_Wr_firstBit_61 rfl rfl ?_
            | refine T_aload_nN (pc1 := 62) (pc := 61) k_Wr_firstBit_61 rfl rfl ?_
            | refine T_getR (pc1 := 65) (pc := 62) k_Wr_firstBit_62 rfl f_Wr_9 rfl (by first | assumption | exact ga G (by decide) rfl | exact lgA LG (by omega)) (by first | assumption | exact gr G (by decide) rfl | exact lgR LG (by omega)) ?_
            | refine T_iload_n (pc1 := 66) (pc := 65) k_Wr_firstBit_65 rfl rfl ?_
            | refine T_ialdN (pc1 := 67) (pc := 66) k_Wr_firstBit_66 rfl (by first | assumption | exact ga G (by decide) rfl | exact lgA LG (by omega)) (by omega) (by omega) (by first | assumption | (simp (disch := omega) only [pI_eq, pI_row, pI_col, va_up_self, va_up_ne, ne_eq, not_false_eq_true] <;> rfl) | rfl) ?_
            | refine T_iald (pc1 := 67) (pc := 66) k_Wr_firstBit_66 rfl (by first | assumption | exact ga G (by decide) rfl | exact lgA LG (by omega)) (by assumption) ?_
            | with_reducible refine T_iaddN (pc1 := 68) (pc := 67) k_Wr_firstBit_67 (by decide) ?_
            | refine T_iadd (pc1 := 68) (pc := 67) k_Wr_firstBit_67 rfl ?_
            | refine T_aload_n (pc1 := 69) (pc := 68) k_Wr_firstBit_68 rfl rfl ?_
            | refine T_aload_nN (pc1 := 69) (pc := 68) k_Wr_firstBit_68 rfl rfl ?_
            | refine T_getR (pc1 := 72) (pc := 69) k_Wr_firstBit_69 rfl f_Wr_15 rfl (by first | assumption | exact ga G (by decide) rfl | exact lgA LG (by omega)) (by first | assumption | exact gr G (by decide) rfl | exact lgR LG (by omega)) ?_
            | refine T_iload_n (pc1 := 73) (pc := 72) k_Wr_firstBit_72 rfl rfl ?_
            | (with_reducible refine T_icmp_neN (tgt := 79) (pc1 := 77) (pc := 74) k_Wr_firstBit_74 (by decide) (by decide) (by omega) (by omega) (fun hc => ?_) (fun hc => ?_) <;> first | (exfalso; omega) | skip)
            | refine T_icmp_ne_t (tgt := 79) (pc := 74) k_Wr_firstBit_74 rfl (by decide) ?_
            | refine T_icmp_ne_f (tgt := 79) (pc1 := 77) (pc := 74) k_Wr_firstBit_74 rfl rfl (by decide) ?_
            | refine T_icmp_ne (tgt := 79) (pc1 := 77) (pc := 74) k_Wr_firstBit_74 rfl rfl (fun hc => ?_) (fun hc => ?_)
            | refine T_retI (pc := 78) k_Wr_firstBit_78 rfl (by first | rfl | decide | assumption) ?_
            | refine T_goto (tgt := 16) (pc := 82) k_Wr_firstBit_82 rfl ?_)
          all_goals first | exact no (by omega) _ | exact yes (by omega) | (exfalso; omega)
        · have hev : (if o = at0 then t else o) = o := if_neg ho1
          repeat' (first
            | ((first | refine T_aload_n (pc1 := 18) (pc := 17) k_Wr_firstBit_17 rfl rfl ?_ | refine T_aload_nN (pc1 := 18) (pc := 17) k_Wr_firstBit_17 rfl rfl ?_) <;> try (refine T_getV (pc1 := 21) (pc := 18) k_Wr_firstBit_18 rfl f_Wr_107 rfl (by first | assumption | exact ga G (by decide) rfl | exact lgA LG (by omega)) (by first | assumption | (simp (disch := omega) only [pI_eq, pI_row, pI_col, va_up_self, va_up_ne, ne_eq, not_false_eq_true] <;> rfl) | rfl) ?_ <;> try ((first | (with_reducible refine T_icmp_geN (tgt := 85) (pc1 := 24) (pc := 21) k_Wr_firstBit_21 (by decide) (by decide) (by omega) (by omega) (fun hc => ?_) (fun hc => ?_) <;> first | (exfalso; omega) | skip) | refine T_icmp_ge_t (tgt := 85) (pc := 21) k_Wr_firstBit_21 rfl (by decide) ?_ | refine T_icmp_ge_f (tgt := 85) (pc1 := 24) (pc := 21) k_Wr_firstBit_21 rfl rfl (by decide) ?_ | refine T_icmp_ge (tgt := 85) (pc1 := 24) (pc := 21) k_Wr_firstBit_21 rfl rfl (fun hc => ?_) (fun hc => ?_)))))
            | ((first | refine T_aload_n (pc1 := 25) (pc := 24) k_Wr_firstBit_24 rfl rfl ?_ | refine T_aload_nN (pc1 := 25) (pc := 24) k_Wr_firstBit_24 rfl rfl ?_) <;> try (refine T_getR (pc1 := 28) (pc := 25) k_Wr_firstBit_25 rfl f_Wr_66 rfl (by first | assumption | exact ga G (by decide) rfl | exact lgA LG (by omega)) (by first | assumption | exact gr G (by decide) rfl | exact lgR LG (by omega)) ?_ <;> try (refine T_iload_n (pc1 := 29) (pc := 28) k_Wr_firstBit_28 rfl rfl ?_ <;> try ((first | refine T_aaldQ (e0 := 4) (pc1 := 30) (pc := 29) k_Wr_firstBit_29 rfl (by first | assumption | exact ga G (by decide) rfl | exact lgA LG (by omega)) (by decide) (by omega) (by omega) (by first | assumption | exact gr G (by decide) rfl | exact lgR LG (by omega)) ?_ | refine T_aaldQ (e0 := 0) (pc1 := 30) (pc := 29) k_Wr_firstBit_29 rfl (by first | assumption | exact ga G (by decide) rfl | exact lgA LG (by omega)) (by decide) (by omega) (by omega) (by first | assumption | exact gr G (by decide) rfl | exact lgR LG (by omega)) ?_ | refine T_aaldQ (e0 := 1) (pc1 := 30) (pc := 29) k_Wr_firstBit_29 rfl (by first | assumption | exact ga G (by decide) rfl | exact lgA LG (by omega)) (by decide) (by omega) (by omega) (by first | assumption | exact gr G (by decide) rfl | exact lgR LG (by omega)) ?_ | refine T_aaldQ (e0 := 2) (pc1 := 30) (pc := 29) k_Wr_firstBit_29 rfl (by first | assumption | exact ga G (by decide) rfl | exact lgA LG (by omega)) (by decide) (by omega) (by omega) (by first | assumption | exact gr G (by decide) rfl | exact lgR LG (by omega)) ?_ | refine T_aaldQ (e0 := 3) (pc1 := 30) (pc := 29) k_Wr_firstBit_29 rfl (by first | assumption | exact ga G (by decide) rfl | exact lgA LG (by omega)) (by decide) (by omega) (by omega) (by first | assumption | exact gr G (by decide) rfl | exact lgR LG (by omega)) ?_) <;> try ((first | refine T_astore (pc1 := 32) (pc := 30) k_Wr_firstBit_30 rfl (Nat.le_of_ble_eq_true rfl) ?_ | refine T_astoreN (pc1 := 32) (pc := 30) k_Wr_firstBit_30 rfl (Nat.le_of_ble_eq_true rfl) ?_) <;> try ((first | refine T_aload_n (pc1 := 33) (pc := 32) k_Wr_firstBit_32 rfl rfl ?_ | refine T_aload_nN (pc1 := 33) (pc := 32) k_Wr_firstBit_32 rfl rfl ?_) <;> try (refine T_getR (pc1 := 36) (pc := 33) k_Wr_firstBit_33 rfl f_Wr_9 rfl (by first | assumption | exact ga G (by decide) rfl | exact lgA LG (by omega)) (by first | assumption | exact gr G (by decide) rfl | exact lgR LG (by omega)) ?_ <;> try (refine T_iload_n (pc1 := 37) (pc := 36) k_Wr_firstBit_36 rfl rfl ?_ <;> try ((first | refine T_ialdN (pc1 := 38) (pc := 37) k_Wr_firstBit_37 rfl (by first | assumption | exact ga G (by decide) rfl | exact lgA LG (by omega)) (by omega) (by omega) (by first | assumption | (simp (disch := omega) only [pI_eq, pI_row, pI_col, va_up_self, va_up_ne, ne_eq, not_false_eq_true] <;> rfl) | rfl) ?_ | refine T_iald (pc1 := 38) (pc := 37) k_Wr_firstBit_37 rfl (by first | assumption | exact ga G (by decide) rfl | exact lgA LG (by omega)) (by assumption) ?_) <;> try ((first | (with_reducible refine T_if_eqN (tgt := 79) (pc1 := 41) (pc := 38) k_Wr_firstBit_38 (by decide) (by decide) (by omega) (fun hc => ?_) (fun hc => ?_) <;> first | (exfalso; omega) | skip) | refine T_if_eq_t (tgt := 79) (pc := 38) k_Wr_firstBit_38 rfl (by decide) ?_ | refine T_if_eq_f (tgt := 79) (pc1 := 41) (pc := 38) k_Wr_firstBit_38 rfl rfl (by decide) ?_ | refine T_if_eq (tgt := 79) (pc1 := 41) (pc := 38) k_Wr_firstBit_38 rfl rfl (fun hc => ?_) (fun hc => ?_))))))))))))
            | ((first | refine T_aload (pc1 := 43) (pc := 41) k_Wr_firstBit_41 rfl rfl ?_ | refine T_aloadN (pc1 := 43) (pc := 41) k_Wr_firstBit_41 rfl rfl ?_) <;> try (refine T_iload_n (pc1 := 44) (pc := 43) k_Wr_firstBit_43 rfl rfl ?_ <;> try ((refine T_cV (As := [_]) (d1 := 1) (pc1 := 47) (pc := 44) k_Wr_firstBit_44 rfl (by decide) (Nat.le_of_ble_eq_true rfl) rfl o_B_touches l_Wr_110 rfl (by first | assumption | exact ga G (by decide) rfl | exact lgA LG (by omega)) rfl (c_B_touches gb f1 f2 ho ht ha (fun ht1 => ?_) (fun ht1 => ?_)) <;> try dsimp only [psh]) <;> try ((first | (with_reducible refine T_if_eqN (tgt := 79) (pc1 := 50) (pc := 47) k_Wr_firstBit_47 (by decide) (by decide) (by omega) (fun hc => ?_) (fun hc => ?_) <;> first | (exfalso; omega) | skip) | refine T_if_eq_t (tgt := 79) (pc := 47) k_Wr_firstBit_47 rfl (by decide) ?_ | refine T_if_eq_f (tgt := 79) (pc1 := 50) (pc := 47) k_Wr_firstBit_47 rfl rfl (by decide) ?_ | refine T_if_eq (tgt := 79) (pc1 := 50) (pc := 47) k_Wr_firstBit_47 rfl rfl (fun hc => ?_) (fun hc => ?_))))))
            | ((first | refine T_aload_n (pc1 := 51) (pc := 50) k_Wr_firstBit_50 rfl rfl ?_ | refine T_aload_nN (pc1 := 51) (pc := 50) k_Wr_firstBit_50 rfl rfl ?_) <;> try (refine T_getR (pc1 := 54) (pc := 51) k_Wr_firstBit_51 rfl f_Wr_15 rfl (by first | assumption | exact ga G (by decide) rfl | exact lgA LG (by omega)) (by first | assumption | exact gr G (by decide) rfl | exact lgR LG (by omega)) ?_ <;> try ((first | refine T_aload (pc1 := 56) (pc := 54) k_Wr_firstBit_54 rfl rfl ?_ | refine T_aloadN (pc1 := 56) (pc := 54) k_Wr_firstBit_54 rfl rfl ?_) <;> try (refine T_iload_n (pc1 := 57) (pc := 56) k_Wr_firstBit_56 rfl rfl ?_ <;> try ((refine T_cV (As := [_]) (d1 := 1) (pc1 := 60) (pc := 57) k_Wr_firstBit_57 rfl (by decide) (Nat.le_of_ble_eq_true rfl) rfl o_B_endFrom l_Wr_87 rfl (by first | assumption | exact ga G (by decide) rfl | exact lgA LG (by omega)) rfl (c_B_endV gb f1 f2 ho ht ha hev ?_) <;> try dsimp only [psh]) <;> try ((first | refine T_ialdN (pc1 := 61) (pc := 60) k_Wr_firstBit_60 rfl (by first | assumption | exact ga G (by decide) rfl | exact lgA LG (by omega)) (by omega) (by omega) (by first | assumption | (simp (disch := omega) only [pI_eq, pI_row, pI_col, va_up_self, va_up_ne, ne_eq, not_false_eq_true] <;> rfl) | rfl) ?_ | refine T_iald (pc1 := 61) (pc := 60) k_Wr_firstBit_60 rfl (by first | assumption | exact ga G (by decide) rfl | exact lgA LG (by omega)) (by assumption) ?_) <;> try ((first | refine T_aload_n (pc1 := 62) (pc := 61) k_Wr_firstBit_61 rfl rfl ?_ | refine T_aload_nN (pc1 := 62) (pc := 61) k_Wr_firstBit_61 rfl rfl ?_) <;> try (refine T_getR (pc1 := 65) (pc := 62) k_Wr_firstBit_62 rfl f_Wr_9 rfl (by first | assumption | exact ga G (by decide) rfl | exact lgA LG (by omega)) (by first | assumption | exact gr G (by decide) rfl | exact lgR LG (by omega)) ?_ <;> try (refine T_iload_n (pc1 := 66) (pc := 65) k_Wr_firstBit_65 rfl rfl ?_ <;> try ((first | refine T_ialdN (pc1 := 67) (pc := 66) k_Wr_firstBit_66 rfl (by first | assumption | exact ga G (by decide) rfl | exact lgA LG (by omega)) (by omega) (by omega) (by first | assumption | (simp (disch := omega) only [pI_eq, pI_row, pI_col, va_up_self, va_up_ne, ne_eq, not_false_eq_true] <;> rfl) | rfl) ?_ | refine T_iald (pc1 := 67) (pc := 66) k_Wr_firstBit_66 rfl (by first | assumption | exact ga G (by decide) rfl | exact lgA LG (by omega)) (by assumption) ?_) <;> try ((first | with_reducible refine T_iaddN (pc1 := 68) (pc := 67) k_Wr_firstBit_67 (by decide) ?_ | refine T_iadd (pc1 := 68) (pc := 67) k_Wr_firstBit_67 rfl ?_) <;> try ((first | refine T_aload_n (pc1 := 69) (pc := 68) k_Wr_firstBit_68 rfl rfl ?_ | refine T_aload_nN (pc1 := 69) (pc := 68) k_Wr_firstBit_68 rfl rfl ?_) <;> try (refine T_getR (pc1 := 72) (pc := 69) k_Wr_firstBit_69 rfl f_Wr_15 rfl (by first | assumption | exact ga G (by decide) rfl | exact lgA LG (by omega)) (by first | assumption | exact gr G (by decide) rfl | exact lgR LG (by omega)) ?_ <;> try (refine T_iload_n (pc1 := 73) (pc := 72) k_Wr_firstBit_72 rfl rfl ?_))))))))))))))
            | ((first | refine T_ialdN (pc1 := 74) (pc := 73) k_Wr_firstBit_73 rfl (by first | assumption | exact ga G (by decide) rfl | exact lgA LG (by omega)) (by omega) (by omega) (by first | assumption | (simp (disch := omega) only [pI_eq, pI_row, pI_col, va_up_self, va_up_ne, ne_eq, not_false_eq_true] <;> rfl) | rfl) ?_ | refine T_iald (pc1 := 74) (pc := 73) k_Wr_firstBit_73 rfl (by first | assumption | exact ga G (by decide) rfl | exact lgA LG (by omega)) (by assumption) ?_) <;> try ((first | (with_reducible refine T_icmp_neN (tgt := 79) (pc1 := 77) (pc := 74) k_Wr_firstBit_74 (by decide) (by decide) (by omega) (by omega) (fun hc => ?_) (fun hc => ?_) <;> first | (exfalso; omega) | skip) | refine T_icmp_ne_t (tgt := 79) (pc := 74) k_Wr_firstBit_74 rfl (by decide) ?_ | refine T_icmp_ne_f (tgt := 79) (pc1 := 77) (pc := 74) k_Wr_firstBit_74 rfl rfl (by decide) ?_ | refine T_icmp_ne (tgt := 79) (pc1 := 77) (pc := 74) k_Wr_firstBit_74 rfl rfl (fun hc => ?_) (fun hc => ?_))))
            | (refine T_iload_n (pc1 := 78) (pc := 77) k_Wr_firstBit_77 rfl rfl ?_ <;> try (refine T_retI (pc := 78) k_Wr_firstBit_78 rfl (by first | rfl | decide | assumption) ?_))
            | ((first | refine T_iincN (b := 1) (pc1 := 82) (pc := 79) k_Wr_firstBit_79 rfl rfl (by decide) ?_ | refine T_iinc (v := (nI 1)) (pc1 := 82) (pc := 79) k_Wr_firstBit_79 rfl rfl (by decide) ?_) <;> try (refine T_goto (tgt := 16) (pc := 82) k_Wr_firstBit_82 rfl ?_))
            | refine T_getV (pc1 := 21) (pc := 18) k_Wr_firstBit_18 rfl f_Wr_107 rfl (by first | assumption | exact ga G (by decide) rfl | exact lgA LG (by omega)) (by first | assumption | (simp (disch := omega) only [pI_eq, pI_row, pI_col, va_up_self, va_up_ne, ne_eq, not_false_eq_true] <;> rfl) | rfl) ?_
            | (with_reducible refine T_icmp_geN (tgt := 85) (pc1 := 24) (pc := 21) k_Wr_firstBit_21 (by decide) (by decide) (by omega) (by omega) (fun hc => ?_) (fun hc => ?_) <;> first | (exfalso; omega) | skip)
            | refine T_icmp_ge_t (tgt := 85) (pc := 21) k_Wr_firstBit_21 rfl (by decide) ?_
            | refine T_icmp_ge_f (tgt := 85) (pc1 := 24) (pc := 21) k_Wr_firstBit_21 rfl rfl (by decide) ?_
            | refine T_icmp_ge (tgt := 85) (pc1 := 24) (pc := 21) k_Wr_firstBit_21 rfl rfl (fun hc => ?_) (fun hc => ?_)
            | refine T_getR (pc1 := 28) (pc := 25) k_Wr_firstBit_25 rfl f_Wr_66 rfl (by first | assumption | exact ga G (by decide) rfl | exact lgA LG (by omega)) (by first | assumption | exact gr G (by decide) rfl | exact lgR LG (by omega)) ?_
            | refine T_iload_n (pc1 := 29) (pc := 28) k_Wr_firstBit_28 rfl rfl ?_
            | refine T_aaldQ (e0 := 4) (pc1 := 30) (pc := 29) k_Wr_firstBit_29 rfl (by first | assumption | exact ga G (by decide) rfl | exact lgA LG (by omega)) (by decide) (by omega) (by omega) (by first | assumption | exact gr G (by decide) rfl | exact lgR LG (by omega)) ?_
            | refine T_aaldQ (e0 := 0) (pc1 := 30) (pc := 29) k_Wr_firstBit_29 rfl (by first | assumption | exact ga G (by decide) rfl | exact lgA LG (by omega)) (by decide) (by omega) (by omega) (by first | assumption | exact gr G (by decide) rfl | exact lgR LG (by omega)) ?_
            | refine T_aaldQ (e0 := 1) (pc1 := 30) (pc := 29) k_Wr_firstBit_29 rfl (by first | assumption | exact ga G (by decide) rfl | exact lgA LG (by omega)) (by decide) (by omega) (by omega) (by first | assumption | exact gr G (by decide) rfl | exact lgR LG (by omega)) ?_
            | refine T_aaldQ (e0 := 2) (pc1 := 30) (pc := 29) k_Wr_firstBit_29 rfl (by first | assumption | exact ga G (by decide) rfl | exact lgA LG (by omega)) (by decide) (by omega) (by omega) (by first | assumption | exact gr G (by decide) rfl | exact lgR LG (by omega)) ?_
            | refine T_aaldQ (e0 := 3) (pc1 := 30) (pc := 29) k_Wr_firstBit_29 rfl (by first | assumption | exact ga G (by decide) rfl | exact lgA LG (by omega)) (by decide) (by omega) (by omega) (by first | assumption | exact gr G (by decide) rfl | exact lgR LG (by omega)) ?_
            | refine T_astore (pc1 := 32) (pc := 30) k_Wr_firstBit_30 rfl (Nat.le_of_ble_eq_true rfl) ?_
            | refine T_astoreN (pc1 := 32) (pc := 30) k_Wr_firstBit_30 rfl (Nat.le_of_ble_eq_true rfl) ?_
            | refine T_aload_n (pc1 := 33) (pc := 32) k_Wr_firstBit_32 rfl rfl ?_
            | refine T_aload_nN (pc1 := 33) (pc := 32) k_Wr_firstBit_32 rfl rfl ?_
            | refine T_getR (pc1 := 36) (pc := 33) k_Wr_firstBit_33 rfl f_Wr_9 rfl (by first | assumption | exact ga G (by decide) rfl | exact lgA LG (by omega)) (by first | assumption | exact gr G (by decide) rfl | exact lgR LG (by omega)) ?_
            | refine T_iload_n (pc1 := 37) (pc := 36) k_Wr_firstBit_36 rfl rfl ?_
            | refine T_ialdN (pc1 := 38) (pc := 37) k_Wr_firstBit_37 rfl (by first | assumption | exact ga G (by decide) rfl | exact lgA LG (by omega)) (by omega) (by omega) (by first | assumption | (simp (disch := omega) only [pI_eq, pI_row, pI_col, va_up_self, va_up_ne, ne_eq, not_false_eq_true] <;> rfl) | rfl) ?_
            | refine T_iald (pc1 := 38) (pc := 37) k_Wr_firstBit_37 rfl (by first | assumption | exact ga G (by decide) rfl | exact lgA LG (by omega)) (by assumption) ?_
            | (with_reducible refine T_if_eqN (tgt := 79) (pc1 := 41) (pc := 38) k_Wr_firstBit_38 (by decide) (by decide) (by omega) (fun hc => ?_) (fun hc => ?_) <;> first | (exfalso; omega) | skip)
            | refine T_if_eq_t (tgt := 79) (pc := 38) k_Wr_firstBit_38 rfl (by decide) ?_
            | refine T_if_eq_f (tgt := 79) (pc1 := 41) (pc := 38) k_Wr_firstBit_38 rfl rfl (by decide) ?_
            | refine T_if_eq (tgt := 79) (pc1 := 41) (pc := 38) k_Wr_firstBit_38 rfl rfl (fun hc => ?_) (fun hc => ?_)
            | refine T_iload_n (pc1 := 44) (pc := 43) k_Wr_firstBit_43 rfl rfl ?_
            | (refine T_cV (As := [_]) (d1 := 1) (pc1 := 47) (pc := 44) k_Wr_firstBit_44 rfl (by decide) (Nat.le_of_ble_eq_true rfl) rfl o_B_touches l_Wr_110 rfl (by first | assumption | exact ga G (by decide) rfl | exact lgA LG (by omega)) rfl (c_B_touches gb f1 f2 ho ht ha (fun ht1 => ?_) (fun ht1 => ?_)) <;> try dsimp only [psh])
            | (with_reducible refine T_if_eqN (tgt := 79) (pc1 := 50) (pc := 47) k_Wr_firstBit_47 (by decide) (by decide) (by omega) (fun hc => ?_) (fun hc => ?_) <;> first | (exfalso; omega) | skip)
            | refine T_if_eq_t (tgt := 79) (pc := 47) k_Wr_firstBit_47 rfl (by decide) ?_
            | refine T_if_eq_f (tgt := 79) (pc1 := 50) (pc := 47) k_Wr_firstBit_47 rfl rfl (by decide) ?_
            | refine T_if_eq (tgt := 79) (pc1 := 50) (pc := 47) k_Wr_firstBit_47 rfl rfl (fun hc => ?_) (fun hc => ?_)
            | refine T_getR (pc1 := 54) (pc := 51) k_Wr_firstBit_51 rfl f_Wr_15 rfl (by first | assumption | exact ga G (by decide) rfl | exact lgA LG (by omega)) (by first | assumption | exact gr G (by decide) rfl | exact lgR LG (by omega)) ?_
            | refine T_aload (pc1 := 56) (pc := 54) k_Wr_firstBit_54 rfl rfl ?_
            | refine T_aloadN (pc1 := 56) (pc := 54) k_Wr_firstBit_54 rfl rfl ?_
            | refine T_iload_n (pc1 := 57) (pc := 56) k_Wr_firstBit_56 rfl rfl ?_
            | (refine T_cV (As := [_]) (d1 := 1) (pc1 := 60) (pc := 57) k_Wr_firstBit_57 rfl (by decide) (Nat.le_of_ble_eq_true rfl) rfl o_B_endFrom l_Wr_87 rfl (by first | assumption | exact ga G (by decide) rfl | exact lgA LG (by omega)) rfl (c_B_endV gb f1 f2 ho ht ha hev ?_) <;> try dsimp only [psh])
            | refine T_ialdN (pc1 := 61) (pc := 60) k_Wr_firstBit_60 rfl (by first | assumption | exact ga G (by decide) rfl | exact lgA LG (by omega)) (by omega) (by omega) (by first | assumption | (simp (disch := omega) only [pI_eq, pI_row, pI_col, va_up_self, va_up_ne, ne_eq, not_false_eq_true] <;> rfl) | rfl) ?_
            | refine T_iald (pc1 := 61) (pc := 60) k_Wr_firstBit_60 rfl (by first | assumption | exact ga G (by decide) rfl | exact lgA LG (by omega)) (by assumption) ?_
            | refine T_aload_n (pc1 := 62) (pc := 61) k_Wr_firstBit_61 rfl rfl ?_
            | refine T_aload_nN (pc1 := 62) (pc := 61) k_Wr_firstBit_61 rfl rfl ?_
            | refine T_getR (pc1 := 65) (pc := 62) k_Wr_firstBit_62 rfl f_Wr_9 rfl (by first | assumption | exact ga G (by decide) rfl | exact lgA LG (by omega)) (by first | assumption | exact gr G (by decide) rfl | exact lgR LG (by omega)) ?_
            | refine T_iload_n (pc1 := 66) (pc := 65) k_Wr_firstBit_65 rfl rfl ?_
            | refine T_ialdN (pc1 := 67) (pc := 66) k_Wr_firstBit_66 rfl (by first | assumption | exact ga G (by decide) rfl | exact lgA LG (by omega)) (by omega) (by omega) (by first | assumption | (simp (disch := omega) only [pI_eq, pI_row, pI_col, va_up_self, va_up_ne, ne_eq, not_false_eq_true] <;> rfl) | rfl) ?_
            | refine T_iald (pc1 := 67) (pc := 66) k_Wr_firstBit_66 rfl (by first | assumption | exact ga G (by decide) rfl | exact lgA LG (by omega)) (by assumption) ?_
            | with_reducible refine T_iaddN (pc1 := 68) (pc := 67) k_Wr_firstBit_67 (by decide) ?_
            | refine T_iadd (pc1 := 68) (pc := 67) k_Wr_firstBit_67 rfl ?_
            | refine T_aload_n (pc1 := 69) (pc := 68) k_Wr_firstBit_68 rfl rfl ?_
            | refine T_aload_nN (pc1 := 69) (pc := 68) k_Wr_firstBit_68 rfl rfl ?_
            | refine T_getR (pc1 := 72) (pc := 69) k_Wr_firstBit_69 rfl f_Wr_15 rfl (by first | assumption | exact ga G (by decide) rfl | exact lgA LG (by omega)) (by first | assumption | exact gr G (by decide) rfl | exact lgR LG (by omega)) ?_
            | refine T_iload_n (pc1 := 73) (pc := 72) k_Wr_firstBit_72 rfl rfl ?_
            | (with_reducible refine T_icmp_neN (tgt := 79) (pc1 := 77) (pc := 74) k_Wr_firstBit_74 (by decide) (by decide) (by omega) (by omega) (fun hc => ?_) (fun hc => ?_) <;> first | (exfalso; omega) | skip)
            | refine T_icmp_ne_t (tgt := 79) (pc := 74) k_Wr_firstBit_74 rfl (by decide) ?_
            | refine T_icmp_ne_f (tgt := 79) (pc1 := 77) (pc := 74) k_Wr_firstBit_74 rfl rfl (by decide) ?_
            | refine T_icmp_ne (tgt := 79) (pc1 := 77) (pc := 74) k_Wr_firstBit_74 rfl rfl (fun hc => ?_) (fun hc => ?_)
            | refine T_retI (pc := 78) k_Wr_firstBit_78 rfl (by first | rfl | decide | assumption) ?_
            | refine T_goto (tgt := 16) (pc := 82) k_Wr_firstBit_82 rfl ?_)
          all_goals first | exact no (by omega) _ | exact yes (by omega) | (exfalso; omega)
    repeat' (first
      | ((first | refine T_aload_n (pc1 := 1) (pc := 0) k_Wr_firstBit_0 rfl rfl ?_ | refine T_aload_nN (pc1 := 1) (pc := 0) k_Wr_firstBit_0 rfl rfl ?_) <;> try (refine T_getR (pc1 := 4) (pc := 1) k_Wr_firstBit_1 rfl f_Wr_15 rfl (by first | assumption | exact ga G (by decide) rfl | exact lgA LG (by omega)) (by first | assumption | exact gr G (by decide) rfl | exact lgR LG (by omega)) ?_ <;> try (refine T_iload_n (pc1 := 5) (pc := 4) k_Wr_firstBit_4 rfl rfl ?_ <;> try ((first | refine T_ialdN (pc1 := 6) (pc := 5) k_Wr_firstBit_5 rfl (by first | assumption | exact ga G (by decide) rfl | exact lgA LG (by omega)) (by omega) (by omega) (by first | assumption | (simp (disch := omega) only [pI_eq, pI_row, pI_col, va_up_self, va_up_ne, ne_eq, not_false_eq_true] <;> rfl) | rfl) ?_ | refine T_iald (pc1 := 6) (pc := 5) k_Wr_firstBit_5 rfl (by first | assumption | exact ga G (by decide) rfl | exact lgA LG (by omega)) (by assumption) ?_) <;> try (refine T_ldc (v := (nI 1000000)) (pc1 := 8) (pc := 6) k_Wr_firstBit_6 rfl c_Wr_106 ?_ <;> try ((first | (with_reducible refine T_icmp_ltN (tgt := 14) (pc1 := 11) (pc := 8) k_Wr_firstBit_8 (by decide) (by decide) (by omega) (by omega) (fun hc => ?_) (fun hc => ?_) <;> first | (exfalso; omega) | skip) | refine T_icmp_lt_t (tgt := 14) (pc := 8) k_Wr_firstBit_8 rfl (by decide) ?_ | refine T_icmp_lt_f (tgt := 14) (pc1 := 11) (pc := 8) k_Wr_firstBit_8 rfl rfl (by decide) ?_ | refine T_icmp_lt (tgt := 14) (pc1 := 11) (pc := 8) k_Wr_firstBit_8 rfl rfl (fun hc => ?_) (fun hc => ?_))))))))
      | (refine T_ldc (v := (-1000000005)) (pc1 := 13) (pc := 11) k_Wr_firstBit_11 rfl c_Wr_49 ?_ <;> try (refine T_retI (pc := 13) k_Wr_firstBit_13 rfl (by first | rfl | decide | assumption) ?_))
      | (refine T_iconst (v := (nI 0)) (pc1 := 15) (pc := 14) k_Wr_firstBit_14 rfl (by decide) ?_ <;> try (refine T_istore_n (pc1 := 16) (pc := 15) k_Wr_firstBit_15 rfl (Nat.le_of_ble_eq_true rfl) ?_))
      | refine T_getR (pc1 := 4) (pc := 1) k_Wr_firstBit_1 rfl f_Wr_15 rfl (by first | assumption | exact ga G (by decide) rfl | exact lgA LG (by omega)) (by first | assumption | exact gr G (by decide) rfl | exact lgR LG (by omega)) ?_
      | refine T_iload_n (pc1 := 5) (pc := 4) k_Wr_firstBit_4 rfl rfl ?_
      | refine T_ialdN (pc1 := 6) (pc := 5) k_Wr_firstBit_5 rfl (by first | assumption | exact ga G (by decide) rfl | exact lgA LG (by omega)) (by omega) (by omega) (by first | assumption | (simp (disch := omega) only [pI_eq, pI_row, pI_col, va_up_self, va_up_ne, ne_eq, not_false_eq_true] <;> rfl) | rfl) ?_
      | refine T_iald (pc1 := 6) (pc := 5) k_Wr_firstBit_5 rfl (by first | assumption | exact ga G (by decide) rfl | exact lgA LG (by omega)) (by assumption) ?_
      | refine T_ldc (v := (nI 1000000)) (pc1 := 8) (pc := 6) k_Wr_firstBit_6 rfl c_Wr_106 ?_
      | (with_reducible refine T_icmp_ltN (tgt := 14) (pc1 := 11) (pc := 8) k_Wr_firstBit_8 (by decide) (by decide) (by omega) (by omega) (fun hc => ?_) (fun hc => ?_) <;> first | (exfalso; omega) | skip)
      | refine T_icmp_lt_t (tgt := 14) (pc := 8) k_Wr_firstBit_8 rfl (by decide) ?_
      | refine T_icmp_lt_f (tgt := 14) (pc1 := 11) (pc := 8) k_Wr_firstBit_8 rfl rfl (by decide) ?_
      | refine T_icmp_lt (tgt := 14) (pc1 := 11) (pc := 8) k_Wr_firstBit_8 rfl rfl (fun hc => ?_) (fun hc => ?_)
      | refine T_retI (pc := 13) k_Wr_firstBit_13 rfl (by first | rfl | decide | assumption) ?_
      | refine T_istore_n (pc1 := 16) (pc := 15) k_Wr_firstBit_15 rfl (Nat.le_of_ble_eq_true rfl) ?_)
    all_goals first | exact loop n 0 _ (by omega) rfl | (exfalso; omega)
  · rw [if_neg hlt] at kk
    repeat' (first
      | ((first | refine T_aload_n (pc1 := 1) (pc := 0) k_Wr_firstBit_0 rfl rfl ?_ | refine T_aload_nN (pc1 := 1) (pc := 0) k_Wr_firstBit_0 rfl rfl ?_) <;> try (refine T_getR (pc1 := 4) (pc := 1) k_Wr_firstBit_1 rfl f_Wr_15 rfl (by first | assumption | exact ga G (by decide) rfl | exact lgA LG (by omega)) (by first | assumption | exact gr G (by decide) rfl | exact lgR LG (by omega)) ?_ <;> try (refine T_iload_n (pc1 := 5) (pc := 4) k_Wr_firstBit_4 rfl rfl ?_ <;> try ((first | refine T_ialdN (pc1 := 6) (pc := 5) k_Wr_firstBit_5 rfl (by first | assumption | exact ga G (by decide) rfl | exact lgA LG (by omega)) (by omega) (by omega) (by first | assumption | (simp (disch := omega) only [pI_eq, pI_row, pI_col, va_up_self, va_up_ne, ne_eq, not_false_eq_true] <;> rfl) | rfl) ?_ | refine T_iald (pc1 := 6) (pc := 5) k_Wr_firstBit_5 rfl (by first | assumption | exact ga G (by decide) rfl | exact lgA LG (by omega)) (by assumption) ?_) <;> try (refine T_ldc (v := (nI 1000000)) (pc1 := 8) (pc := 6) k_Wr_firstBit_6 rfl c_Wr_106 ?_ <;> try ((first | (with_reducible refine T_icmp_ltN (tgt := 14) (pc1 := 11) (pc := 8) k_Wr_firstBit_8 (by decide) (by decide) (by omega) (by omega) (fun hc => ?_) (fun hc => ?_) <;> first | (exfalso; omega) | skip) | refine T_icmp_lt_t (tgt := 14) (pc := 8) k_Wr_firstBit_8 rfl (by decide) ?_ | refine T_icmp_lt_f (tgt := 14) (pc1 := 11) (pc := 8) k_Wr_firstBit_8 rfl rfl (by decide) ?_ | refine T_icmp_lt (tgt := 14) (pc1 := 11) (pc := 8) k_Wr_firstBit_8 rfl rfl (fun hc => ?_) (fun hc => ?_))))))))
      | (refine T_ldc (v := (-1000000005)) (pc1 := 13) (pc := 11) k_Wr_firstBit_11 rfl c_Wr_49 ?_ <;> try (refine T_retI (pc := 13) k_Wr_firstBit_13 rfl (by first | rfl | decide | assumption) ?_))
      | refine T_getR (pc1 := 4) (pc := 1) k_Wr_firstBit_1 rfl f_Wr_15 rfl (by first | assumption | exact ga G (by decide) rfl | exact lgA LG (by omega)) (by first | assumption | exact gr G (by decide) rfl | exact lgR LG (by omega)) ?_
      | refine T_iload_n (pc1 := 5) (pc := 4) k_Wr_firstBit_4 rfl rfl ?_
      | refine T_ialdN (pc1 := 6) (pc := 5) k_Wr_firstBit_5 rfl (by first | assumption | exact ga G (by decide) rfl | exact lgA LG (by omega)) (by omega) (by omega) (by first | assumption | (simp (disch := omega) only [pI_eq, pI_row, pI_col, va_up_self, va_up_ne, ne_eq, not_false_eq_true] <;> rfl) | rfl) ?_
      | refine T_iald (pc1 := 6) (pc := 5) k_Wr_firstBit_5 rfl (by first | assumption | exact ga G (by decide) rfl | exact lgA LG (by omega)) (by assumption) ?_
      | refine T_ldc (v := (nI 1000000)) (pc1 := 8) (pc := 6) k_Wr_firstBit_6 rfl c_Wr_106 ?_
      | (with_reducible refine T_icmp_ltN (tgt := 14) (pc1 := 11) (pc := 8) k_Wr_firstBit_8 (by decide) (by decide) (by omega) (by omega) (fun hc => ?_) (fun hc => ?_) <;> first | (exfalso; omega) | skip)
      | refine T_icmp_lt_t (tgt := 14) (pc := 8) k_Wr_firstBit_8 rfl (by decide) ?_
      | refine T_icmp_lt_f (tgt := 14) (pc1 := 11) (pc := 8) k_Wr_firstBit_8 rfl rfl (by decide) ?_
      | refine T_icmp_lt (tgt := 14) (pc1 := 11) (pc := 8) k_Wr_firstBit_8 rfl rfl (fun hc => ?_) (fun hc => ?_)
      | refine T_retI (pc := 13) k_Wr_firstBit_13 rfl (by first | rfl | decide | assumption) ?_)
    all_goals first | exact kk | (exfalso; omega)
/-- the walk under way in land a -/
def WkS (I : IM) (a mi tr at0 : Nat) : Prop := I (a + 4) 0 = nI 1 ∧ I (a + 4) 1 = nI mi ∧ I (a + 4) 2 = nI tr ∧ I (a + 4) 3 = nI at0
theorem c_Wa_addTry {a mi tr b tk en : Nat} (hA : isAg g (a + 4) 7 6) (hB : isAg g (a + 5) 100 60) (hR : gR g (a + 4) 5 = some (a + 5)) (h1 : I (a + 4) 1 = nI mi) (h2 : I (a + 4) 2 = nI tr) (ht : tr < 60) (kk : K none g (pI (pI (pI (pI I (a + 5) tr (nI b)) (a + 4) 2 (nI (tr + 1))) (a + 4) 1 (nI (mi + tk))) (a + 4) 3 (nI en))) : Cl 1 M_Wa_addTry [.ref (a + 4), .int (nI b), .int (nI tk), .int (nI en)] g I K := by
  show Rl 1 M_Wa_addTry 0 [some (.ref (a + 4)), some (.int (nI b)), some (.int (nI tk)), some (.int (nI en))] [] g I K
  repeat' (first
    | ((first | refine T_aload_n (pc1 := 1) (pc := 0) k_Wa_addTry_0 rfl rfl ?_ | refine T_aload_nN (pc1 := 1) (pc := 0) k_Wa_addTry_0 rfl rfl ?_) <;> try (refine T_getV (pc1 := 4) (pc := 1) k_Wa_addTry_1 rfl f_Wa_19 rfl (by first | assumption | exact ga G (by decide) rfl | exact lgA LG (by omega)) (by first | assumption | (simp (disch := omega) only [pI_eq, pI_row, pI_col, va_up_self, va_up_ne, ne_eq, not_false_eq_true, h1, h2] <;> rfl) | rfl) ?_ <;> try (refine T_bipush (v := (nI 60)) (pc1 := 6) (pc := 4) k_Wa_addTry_4 rfl (by decide) ?_ <;> try ((first | (with_reducible refine T_icmp_geN (tgt := 44) (pc1 := 9) (pc := 6) k_Wa_addTry_6 (by decide) (by decide) (by omega) (by omega) (fun hc => ?_) (fun hc => ?_) <;> first | (exfalso; omega) | skip) | refine T_icmp_ge_t (tgt := 44) (pc := 6) k_Wa_addTry_6 rfl (by decide) ?_ | refine T_icmp_ge_f (tgt := 44) (pc1 := 9) (pc := 6) k_Wa_addTry_6 rfl rfl (by decide) ?_ | refine T_icmp_ge (tgt := 44) (pc1 := 9) (pc := 6) k_Wa_addTry_6 rfl rfl (fun hc => ?_) (fun hc => ?_))))))
    | ((first | refine T_aload_n (pc1 := 10) (pc := 9) k_Wa_addTry_9 rfl rfl ?_ | refine T_aload_nN (pc1 := 10) (pc := 9) k_Wa_addTry_9 rfl rfl ?_) <;> try (refine T_getR (pc1 := 13) (pc := 10) k_Wa_addTry_10 rfl f_Wa_28 rfl (by first | assumption | exact ga G (by decide) rfl | exact lgA LG (by omega)) (by first | assumption | exact gr G (by decide) rfl | exact lgR LG (by omega)) ?_ <;> try ((first | refine T_aload_n (pc1 := 14) (pc := 13) k_Wa_addTry_13 rfl rfl ?_ | refine T_aload_nN (pc1 := 14) (pc := 13) k_Wa_addTry_13 rfl rfl ?_) <;> try (refine T_getV (pc1 := 17) (pc := 14) k_Wa_addTry_14 rfl f_Wa_19 rfl (by first | assumption | exact ga G (by decide) rfl | exact lgA LG (by omega)) (by first | assumption | (simp (disch := omega) only [pI_eq, pI_row, pI_col, va_up_self, va_up_ne, ne_eq, not_false_eq_true, h1, h2] <;> rfl) | rfl) ?_ <;> try (refine T_iload_n (pc1 := 18) (pc := 17) k_Wa_addTry_17 rfl rfl ?_ <;> try (refine T_iastN (pc1 := 19) (pc := 18) k_Wa_addTry_18 rfl (by first | assumption | exact ga G (by decide) rfl | exact lgA LG (by omega)) (by omega) (by omega) ?_ <;> try ((first | refine T_aload_n (pc1 := 20) (pc := 19) k_Wa_addTry_19 rfl rfl ?_ | refine T_aload_nN (pc1 := 20) (pc := 19) k_Wa_addTry_19 rfl rfl ?_) <;> try (refine T_dup (pc1 := 21) (pc := 20) k_Wa_addTry_20 rfl rfl ?_ <;> try (refine T_getV (pc1 := 24) (pc := 21) k_Wa_addTry_21 rfl f_Wa_19 rfl (by first | assumption | exact ga G (by decide) rfl | exact lgA LG (by omega)) (by first | assumption | (simp (disch := omega) only [pI_eq, pI_row, pI_col, va_up_self, va_up_ne, ne_eq, not_false_eq_true, h1, h2] <;> rfl) | rfl) ?_ <;> try (refine T_iconst (v := (nI 1)) (pc1 := 25) (pc := 24) k_Wa_addTry_24 rfl (by decide) ?_ <;> try ((first | with_reducible refine T_iaddN (pc1 := 26) (pc := 25) k_Wa_addTry_25 (by decide) ?_ | refine T_iadd (pc1 := 26) (pc := 25) k_Wa_addTry_25 rfl ?_) <;> try (refine T_putI (pc1 := 29) (pc := 26) k_Wa_addTry_26 rfl f_Wa_19 rfl (by first | assumption | exact ga G (by decide) rfl | exact lgA LG (by omega)) (by first | rfl | decide | assumption) (by first | rfl | decide | assumption) ?_ <;> try ((first | refine T_aload_n (pc1 := 30) (pc := 29) k_Wa_addTry_29 rfl rfl ?_ | refine T_aload_nN (pc1 := 30) (pc := 29) k_Wa_addTry_29 rfl rfl ?_) <;> try (refine T_dup (pc1 := 31) (pc := 30) k_Wa_addTry_30 rfl rfl ?_))))))))))))))
    | (refine T_getV (pc1 := 34) (pc := 31) k_Wa_addTry_31 rfl f_Wa_15 rfl (by first | assumption | exact ga G (by decide) rfl | exact lgA LG (by omega)) (by first | assumption | (simp (disch := omega) only [pI_eq, pI_row, pI_col, va_up_self, va_up_ne, ne_eq, not_false_eq_true, h1, h2] <;> rfl) | rfl) ?_ <;> try (refine T_iload_n (pc1 := 35) (pc := 34) k_Wa_addTry_34 rfl rfl ?_ <;> try ((first | with_reducible refine T_iaddN (pc1 := 36) (pc := 35) k_Wa_addTry_35 (by decide) ?_ | refine T_iadd (pc1 := 36) (pc := 35) k_Wa_addTry_35 rfl ?_) <;> try (refine T_putI (pc1 := 39) (pc := 36) k_Wa_addTry_36 rfl f_Wa_15 rfl (by first | assumption | exact ga G (by decide) rfl | exact lgA LG (by omega)) (by first | rfl | decide | assumption) (by first | rfl | decide | assumption) ?_ <;> try ((first | refine T_aload_n (pc1 := 40) (pc := 39) k_Wa_addTry_39 rfl rfl ?_ | refine T_aload_nN (pc1 := 40) (pc := 39) k_Wa_addTry_39 rfl rfl ?_) <;> try (refine T_iload_n (pc1 := 41) (pc := 40) k_Wa_addTry_40 rfl rfl ?_ <;> try (refine T_putI (pc1 := 44) (pc := 41) k_Wa_addTry_41 rfl f_Wa_22 rfl (by first | assumption | exact ga G (by decide) rfl | exact lgA LG (by omega)) (by first | rfl | decide | assumption) (by first | rfl | decide | assumption) ?_)))))))
    | (refine T_retV (pc := 44) k_Wa_addTry_44 rfl ?_)
    | refine T_getV (pc1 := 4) (pc := 1) k_Wa_addTry_1 rfl f_Wa_19 rfl (by first | assumption | exact ga G (by decide) rfl | exact lgA LG (by omega)) (by first | assumption | (simp (disch := omega) only [pI_eq, pI_row, pI_col, va_up_self, va_up_ne, ne_eq, not_false_eq_true, h1, h2] <;> rfl) | rfl) ?_
    | refine T_bipush (v := (nI 60)) (pc1 := 6) (pc := 4) k_Wa_addTry_4 rfl (by decide) ?_
    | (with_reducible refine T_icmp_geN (tgt := 44) (pc1 := 9) (pc := 6) k_Wa_addTry_6 (by decide) (by decide) (by omega) (by omega) (fun hc => ?_) (fun hc => ?_) <;> first | (exfalso; omega) | skip)
    | refine T_icmp_ge_t (tgt := 44) (pc := 6) k_Wa_addTry_6 rfl (by decide) ?_
    | refine T_icmp_ge_f (tgt := 44) (pc1 := 9) (pc := 6) k_Wa_addTry_6 rfl rfl (by decide) ?_
    | refine T_icmp_ge (tgt := 44) (pc1 := 9) (pc := 6) k_Wa_addTry_6 rfl rfl (fun hc => ?_) (fun hc => ?_)
    | refine T_getR (pc1 := 13) (pc := 10) k_Wa_addTry_10 rfl f_Wa_28 rfl (by first | assumption | exact ga G (by decide) rfl | exact lgA LG (by omega)) (by first | assumption | exact gr G (by decide) rfl | exact lgR LG (by omega)) ?_
    | refine T_aload_n (pc1 := 14) (pc := 13) k_Wa_addTry_13 rfl rfl ?_
    | refine T_aload_nN (pc1 := 14) (pc := 13) k_Wa_addTry_13 rfl rfl ?_
    | refine T_getV (pc1 := 17) (pc := 14) k_Wa_addTry_14 rfl f_Wa_19 rfl (by first | assumption | exact ga G (by decide) rfl | exact lgA LG (by omega)) (by first | assumption | (simp (disch := omega) only [pI_eq, pI_row, pI_col, va_up_self, va_up_ne, ne_eq, not_false_eq_true, h1, h2] <;> rfl) | rfl) ?_
    | refine T_iload_n (pc1 := 18) (pc := 17) k_Wa_addTry_17 rfl rfl ?_
    | refine T_iastN (pc1 := 19) (pc := 18) k_Wa_addTry_18 rfl (by first | assumption | exact ga G (by decide) rfl | exact lgA LG (by omega)) (by omega) (by omega) ?_
    | refine T_aload_n (pc1 := 20) (pc := 19) k_Wa_addTry_19 rfl rfl ?_
    | refine T_aload_nN (pc1 := 20) (pc := 19) k_Wa_addTry_19 rfl rfl ?_
    | refine T_dup (pc1 := 21) (pc := 20) k_Wa_addTry_20 rfl rfl ?_
    | refine T_getV (pc1 := 24) (pc := 21) k_Wa_addTry_21 rfl f_Wa_19 rfl (by first | assumption | exact ga G (by decide) rfl | exact lgA LG (by omega)) (by first | assumption | (simp (disch := omega) only [pI_eq, pI_row, pI_col, va_up_self, va_up_ne, ne_eq, not_false_eq_true, h1, h2] <;> rfl) | rfl) ?_
    | refine T_iconst (v := (nI 1)) (pc1 := 25) (pc := 24) k_Wa_addTry_24 rfl (by decide) ?_
    | with_reducible refine T_iaddN (pc1 := 26) (pc := 25) k_Wa_addTry_25 (by decide) ?_
    | refine T_iadd (pc1 := 26) (pc := 25) k_Wa_addTry_25 rfl ?_
    | refine T_putI (pc1 := 29) (pc := 26) k_Wa_addTry_26 rfl f_Wa_19 rfl (by first | assumption | exact ga G (by decide) rfl | exact lgA LG (by omega)) (by first | rfl | decide | assumption) (by first | rfl | decide | assumption) ?_
    | refine T_aload_n (pc1 := 30) (pc := 29) k_Wa_addTry_29 rfl rfl ?_
    | refine T_aload_nN (pc1 := 30) (pc := 29) k_Wa_addTry_29 rfl rfl ?_
    | refine T_dup (pc1 := 31) (pc := 30) k_Wa_addTry_30 rfl rfl ?_
    | refine T_iload_n (pc1 := 35) (pc := 34) k_Wa_addTry_34 rfl rfl ?_
    | with_reducible refine T_iaddN (pc1 := 36) (pc := 35) k_Wa_addTry_35 (by decide) ?_
    | refine T_iadd (pc1 := 36) (pc := 35) k_Wa_addTry_35 rfl ?_
    | refine T_putI (pc1 := 39) (pc := 36) k_Wa_addTry_36 rfl f_Wa_15 rfl (by first | assumption | exact ga G (by decide) rfl | exact lgA LG (by omega)) (by first | rfl | decide | assumption) (by first | rfl | decide | assumption) ?_
    | refine T_aload_n (pc1 := 40) (pc := 39) k_Wa_addTry_39 rfl rfl ?_
    | refine T_aload_nN (pc1 := 40) (pc := 39) k_Wa_addTry_39 rfl rfl ?_
    | refine T_iload_n (pc1 := 41) (pc := 40) k_Wa_addTry_40 rfl rfl ?_
    | refine T_putI (pc1 := 44) (pc := 41) k_Wa_addTry_41 rfl f_Wa_22 rfl (by first | assumption | exact ga G (by decide) rfl | exact lgA LG (by omega)) (by first | rfl | decide | assumption) (by first | rfl | decide | assumption) ?_)
  all_goals first | exact kk | (exfalso; omega)
def wf1 (a i : Nat) : Prop := lnd a i ∨ i = 64 ∨ i = 65 ∨ stk i
theorem wf1_s {a i : Nat} (ha : a + 20 ≤ 61) (h : wf1 a i) : i < 121 ∨ stk i := by
  unfold wf1 lnd at h
  rcases h with h | h | h | h
  · exact Or.inl (by omega)
  · exact Or.inl (by omega)
  · exact Or.inl (by omega)
  · exact Or.inr h
theorem cf_w {a i : Nat} (h : cf i) : wf1 a i := by
  rcases h with h | h
  · exact Or.inr (Or.inl h)
  · exact Or.inr (Or.inr (Or.inr h))
set_option maxHeartbeats 4000000 in
theorem c_Wr_triesBit {a n tn at0 b mi tr : Nat} {N : Row} {c : Nf} (G : GeoOK g) (LG : LandG g a) (ok : okL N n tn) (LT : LTx g I a N tn) (LB : LBt I a N n) (hW : WkS I a mi tr at0) (hb : b < n) (ha : at0 < 8) (ht : tr < 60) (hmi : mi ≤ 2000 * tr) (hC : ∀ b, b < n → I 64 b = nI (c b)) (hcb : ∀ b, b < n → c b ≤ 1998)
    (kt : ∀ J, brd N b = true → fre (wf1 a) I J → J a = I a → J (a + 3) = I (a + 3) → J 65 = I 65 → (∀ i, i < n → J (a + 6 + i) = I (a + 6 + i)) → WkS J a (mi + 1) (tr + 1) at0 → J (a + 4) 4 = I (a + 4) 4 → J (a + 5) = va_up (I (a + 5)) tr (nI b) → J 64 = va_up (I 64) b (nI 0) → K (some (.int (nI 1))) g J)
    (kf : ∀ J, brd N b = false → fre (wf1 a) I J → J a = I a → J (a + 3) = I (a + 3) → J 65 = I 65 → LBt J a (goN N tn b tr) n → WkS J a (mi + tkk N tn b) (tr + 1) (oe N b at0) → J (a + 4) 4 = I (a + 4) 4 → J (a + 5) = va_up (I (a + 5)) tr (nI b) → J 64 = va_up (I 64) b (nI (thk (goN N tn b tr) tn b)) → K (some (.int (nI (if thk (goN N tn b tr) tn b = c b then 0 else 1)))) g J) : Cl 5 M_Wr_triesBit [.ref 63, .ref a, .int (nI b)] g I K := by
  show Rl 5 M_Wr_triesBit 0 [some (.ref 63), some (.ref a), some (.int (nI b)), none, none, none, none] [] g I K
  obtain ⟨h5, h14, -⟩ := id ok
  obtain ⟨g1, g2, g3, g4, g5, g6, g7, g8, g9, g10, g11, g12, g13, g14⟩ := id LG
  obtain ⟨b1, b2, b3, b4⟩ := id LB
  obtain ⟨w0, w1, w2, w3⟩ := id hW
  have gb := lgA LG (show b < 14 by omega)
  have c64 := hC b hb
  have hcl := hcb b hb
  repeat' (first
    | ((first | refine T_aload_n (pc1 := 1) (pc := 0) k_Wr_triesBit_0 rfl rfl ?_ | refine T_aload_nN (pc1 := 1) (pc := 0) k_Wr_triesBit_0 rfl rfl ?_) <;> try (refine T_getR (pc1 := 4) (pc := 1) k_Wr_triesBit_1 rfl f_Wr_66 rfl (by first | assumption | exact ga G (by decide) rfl | exact lgA LG (by omega)) (by first | assumption | exact gr G (by decide) rfl | exact lgR LG (by omega)) ?_ <;> try (refine T_iload_n (pc1 := 5) (pc := 4) k_Wr_triesBit_4 rfl rfl ?_ <;> try ((first | refine T_aaldQ (e0 := 4) (pc1 := 6) (pc := 5) k_Wr_triesBit_5 rfl (by first | assumption | exact ga G (by decide) rfl | exact lgA LG (by omega)) (by decide) (by omega) (by omega) (by first | assumption | exact gr G (by decide) rfl | exact lgR LG (by omega)) ?_ | refine T_aaldQ (e0 := 0) (pc1 := 6) (pc := 5) k_Wr_triesBit_5 rfl (by first | assumption | exact ga G (by decide) rfl | exact lgA LG (by omega)) (by decide) (by omega) (by omega) (by first | assumption | exact gr G (by decide) rfl | exact lgR LG (by omega)) ?_ | refine T_aaldQ (e0 := 1) (pc1 := 6) (pc := 5) k_Wr_triesBit_5 rfl (by first | assumption | exact ga G (by decide) rfl | exact lgA LG (by omega)) (by decide) (by omega) (by omega) (by first | assumption | exact gr G (by decide) rfl | exact lgR LG (by omega)) ?_ | refine T_aaldQ (e0 := 2) (pc1 := 6) (pc := 5) k_Wr_triesBit_5 rfl (by first | assumption | exact ga G (by decide) rfl | exact lgA LG (by omega)) (by decide) (by omega) (by omega) (by first | assumption | exact gr G (by decide) rfl | exact lgR LG (by omega)) ?_ | refine T_aaldQ (e0 := 3) (pc1 := 6) (pc := 5) k_Wr_triesBit_5 rfl (by first | assumption | exact ga G (by decide) rfl | exact lgA LG (by omega)) (by decide) (by omega) (by omega) (by first | assumption | exact gr G (by decide) rfl | exact lgR LG (by omega)) ?_) <;> try ((first | refine T_astore_n (pc1 := 7) (pc := 6) k_Wr_triesBit_6 rfl (Nat.le_of_ble_eq_true rfl) ?_ | refine T_astore_nN (pc1 := 7) (pc := 6) k_Wr_triesBit_6 rfl (Nat.le_of_ble_eq_true rfl) ?_) <;> try ((first | refine T_aload_n (pc1 := 8) (pc := 7) k_Wr_triesBit_7 rfl rfl ?_ | refine T_aload_nN (pc1 := 8) (pc := 7) k_Wr_triesBit_7 rfl rfl ?_) <;> try (refine T_getR (pc1 := 11) (pc := 8) k_Wr_triesBit_8 rfl f_Wr_18 rfl (by first | assumption | exact ga G (by decide) rfl | exact lgA LG (by omega)) (by first | assumption | exact gr G (by decide) rfl | exact lgR LG (by omega)) ?_ <;> try ((first | refine T_astore (pc1 := 13) (pc := 11) k_Wr_triesBit_11 rfl (Nat.le_of_ble_eq_true rfl) ?_ | refine T_astoreN (pc1 := 13) (pc := 11) k_Wr_triesBit_11 rfl (Nat.le_of_ble_eq_true rfl) ?_) <;> try ((first | refine T_aload_n (pc1 := 14) (pc := 13) k_Wr_triesBit_13 rfl rfl ?_ | refine T_aload_nN (pc1 := 14) (pc := 13) k_Wr_triesBit_13 rfl rfl ?_) <;> try ((first | refine T_aload_n (pc1 := 15) (pc := 14) k_Wr_triesBit_14 rfl rfl ?_ | refine T_aload_nN (pc1 := 15) (pc := 14) k_Wr_triesBit_14 rfl rfl ?_) <;> try (refine T_getV (pc1 := 18) (pc := 15) k_Wr_triesBit_15 rfl f_Wr_70 rfl (by first | assumption | exact ga G (by decide) rfl | exact lgA LG (by omega)) (by first | assumption | (simp (disch := omega) only [pI_eq, pI_row, pI_col, va_up_self, va_up_ne, ne_eq, not_false_eq_true] <;> rfl) | rfl) ?_ <;> try ((refine T_cV (As := [_]) (d1 := 2) (pc1 := 21) (pc := 18) k_Wr_triesBit_18 rfl (by decide) (Nat.le_of_ble_eq_true rfl) rfl o_B_isBarred l_Wr_73 rfl (by first | assumption | exact ga G (by decide) rfl | exact lgA LG (by omega)) rfl (c_B_brd LG ok LB hb (fun hb1 => ?_) (fun hb1 => ?_)) <;> try dsimp only [psh]) <;> try ((first | (with_reducible refine T_if_eqN (tgt := 45) (pc1 := 24) (pc := 21) k_Wr_triesBit_21 (by decide) (by decide) (by omega) (fun hc => ?_) (fun hc => ?_) <;> first | (exfalso; omega) | skip) | refine T_if_eq_t (tgt := 45) (pc := 21) k_Wr_triesBit_21 rfl (by decide) ?_ | refine T_if_eq_f (tgt := 45) (pc1 := 24) (pc := 21) k_Wr_triesBit_21 rfl rfl (by decide) ?_ | refine T_if_eq (tgt := 45) (pc1 := 24) (pc := 21) k_Wr_triesBit_21 rfl rfl (fun hc => ?_) (fun hc => ?_)))))))))))))))
    | refine T_getR (pc1 := 4) (pc := 1) k_Wr_triesBit_1 rfl f_Wr_66 rfl (by first | assumption | exact ga G (by decide) rfl | exact lgA LG (by omega)) (by first | assumption | exact gr G (by decide) rfl | exact lgR LG (by omega)) ?_
    | refine T_iload_n (pc1 := 5) (pc := 4) k_Wr_triesBit_4 rfl rfl ?_
    | refine T_aaldQ (e0 := 4) (pc1 := 6) (pc := 5) k_Wr_triesBit_5 rfl (by first | assumption | exact ga G (by decide) rfl | exact lgA LG (by omega)) (by decide) (by omega) (by omega) (by first | assumption | exact gr G (by decide) rfl | exact lgR LG (by omega)) ?_
    | refine T_aaldQ (e0 := 0) (pc1 := 6) (pc := 5) k_Wr_triesBit_5 rfl (by first | assumption | exact ga G (by decide) rfl | exact lgA LG (by omega)) (by decide) (by omega) (by omega) (by first | assumption | exact gr G (by decide) rfl | exact lgR LG (by omega)) ?_
    | refine T_aaldQ (e0 := 1) (pc1 := 6) (pc := 5) k_Wr_triesBit_5 rfl (by first | assumption | exact ga G (by decide) rfl | exact lgA LG (by omega)) (by decide) (by omega) (by omega) (by first | assumption | exact gr G (by decide) rfl | exact lgR LG (by omega)) ?_
    | refine T_aaldQ (e0 := 2) (pc1 := 6) (pc := 5) k_Wr_triesBit_5 rfl (by first | assumption | exact ga G (by decide) rfl | exact lgA LG (by omega)) (by decide) (by omega) (by omega) (by first | assumption | exact gr G (by decide) rfl | exact lgR LG (by omega)) ?_
    | refine T_aaldQ (e0 := 3) (pc1 := 6) (pc := 5) k_Wr_triesBit_5 rfl (by first | assumption | exact ga G (by decide) rfl | exact lgA LG (by omega)) (by decide) (by omega) (by omega) (by first | assumption | exact gr G (by decide) rfl | exact lgR LG (by omega)) ?_
    | refine T_astore_n (pc1 := 7) (pc := 6) k_Wr_triesBit_6 rfl (Nat.le_of_ble_eq_true rfl) ?_
    | refine T_astore_nN (pc1 := 7) (pc := 6) k_Wr_triesBit_6 rfl (Nat.le_of_ble_eq_true rfl) ?_
    | refine T_aload_n (pc1 := 8) (pc := 7) k_Wr_triesBit_7 rfl rfl ?_
    | refine T_aload_nN (pc1 := 8) (pc := 7) k_Wr_triesBit_7 rfl rfl ?_
    | refine T_getR (pc1 := 11) (pc := 8) k_Wr_triesBit_8 rfl f_Wr_18 rfl (by first | assumption | exact ga G (by decide) rfl | exact lgA LG (by omega)) (by first | assumption | exact gr G (by decide) rfl | exact lgR LG (by omega)) ?_
    | refine T_astore (pc1 := 13) (pc := 11) k_Wr_triesBit_11 rfl (Nat.le_of_ble_eq_true rfl) ?_
    | refine T_astoreN (pc1 := 13) (pc := 11) k_Wr_triesBit_11 rfl (Nat.le_of_ble_eq_true rfl) ?_
    | refine T_aload_n (pc1 := 14) (pc := 13) k_Wr_triesBit_13 rfl rfl ?_
    | refine T_aload_nN (pc1 := 14) (pc := 13) k_Wr_triesBit_13 rfl rfl ?_
    | refine T_aload_n (pc1 := 15) (pc := 14) k_Wr_triesBit_14 rfl rfl ?_
    | refine T_aload_nN (pc1 := 15) (pc := 14) k_Wr_triesBit_14 rfl rfl ?_
    | refine T_getV (pc1 := 18) (pc := 15) k_Wr_triesBit_15 rfl f_Wr_70 rfl (by first | assumption | exact ga G (by decide) rfl | exact lgA LG (by omega)) (by first | assumption | (simp (disch := omega) only [pI_eq, pI_row, pI_col, va_up_self, va_up_ne, ne_eq, not_false_eq_true] <;> rfl) | rfl) ?_
    | (refine T_cV (As := [_]) (d1 := 2) (pc1 := 21) (pc := 18) k_Wr_triesBit_18 rfl (by decide) (Nat.le_of_ble_eq_true rfl) rfl o_B_isBarred l_Wr_73 rfl (by first | assumption | exact ga G (by decide) rfl | exact lgA LG (by omega)) rfl (c_B_brd LG ok LB hb (fun hb1 => ?_) (fun hb1 => ?_)) <;> try dsimp only [psh])
    | (with_reducible refine T_if_eqN (tgt := 45) (pc1 := 24) (pc := 21) k_Wr_triesBit_21 (by decide) (by decide) (by omega) (fun hc => ?_) (fun hc => ?_) <;> first | (exfalso; omega) | skip)
    | refine T_if_eq_t (tgt := 45) (pc := 21) k_Wr_triesBit_21 rfl (by decide) ?_
    | refine T_if_eq_f (tgt := 45) (pc1 := 24) (pc := 21) k_Wr_triesBit_21 rfl rfl (by decide) ?_
    | refine T_if_eq (tgt := 45) (pc1 := 24) (pc := 21) k_Wr_triesBit_21 rfl rfl (fun hc => ?_) (fun hc => ?_))
  · -- barred
    repeat' (first
      | ((first | refine T_aload (pc1 := 26) (pc := 24) k_Wr_triesBit_24 rfl rfl ?_ | refine T_aloadN (pc1 := 26) (pc := 24) k_Wr_triesBit_24 rfl rfl ?_) <;> try (refine T_iload_n (pc1 := 27) (pc := 26) k_Wr_triesBit_26 rfl rfl ?_ <;> try (refine T_iconst (v := (nI 1)) (pc1 := 28) (pc := 27) k_Wr_triesBit_27 rfl (by decide) ?_ <;> try ((first | refine T_aload (pc1 := 30) (pc := 28) k_Wr_triesBit_28 rfl rfl ?_ | refine T_aloadN (pc1 := 30) (pc := 28) k_Wr_triesBit_28 rfl rfl ?_) <;> try (refine T_getV (pc1 := 33) (pc := 30) k_Wr_triesBit_30 rfl f_Wr_34 rfl (by first | assumption | exact ga G (by decide) rfl | exact lgA LG (by omega)) (by first | assumption | (simp (disch := omega) only [pI_eq, pI_row, pI_col, va_up_self, va_up_ne, ne_eq, not_false_eq_true] <;> rfl) | rfl) ?_ <;> try ((refine T_cV (As := [_, _, _]) (d1 := 1) (pc1 := 36) (pc := 33) k_Wr_triesBit_33 rfl (by decide) (Nat.le_of_ble_eq_true rfl) rfl o_Wa_addTry l_Wr_79 rfl (by first | assumption | exact ga G (by decide) rfl | exact lgA LG (by omega)) rfl (c_Wa_addTry g5 g6 g12 w1 w2 ht ?_) <;> try dsimp only [psh]) <;> try ((first | refine T_aload_n (pc1 := 37) (pc := 36) k_Wr_triesBit_36 rfl rfl ?_ | refine T_aload_nN (pc1 := 37) (pc := 36) k_Wr_triesBit_36 rfl rfl ?_) <;> try (refine T_getR (pc1 := 40) (pc := 37) k_Wr_triesBit_37 rfl f_Wr_9 rfl (by first | assumption | exact ga G (by decide) rfl | exact lgA LG (by omega)) (by first | assumption | exact gr G (by decide) rfl | exact lgR LG (by omega)) ?_ <;> try (refine T_iload_n (pc1 := 41) (pc := 40) k_Wr_triesBit_40 rfl rfl ?_ <;> try (refine T_iconst (v := (nI 0)) (pc1 := 42) (pc := 41) k_Wr_triesBit_41 rfl (by decide) ?_ <;> try (refine T_iastN (pc1 := 43) (pc := 42) k_Wr_triesBit_42 rfl (by first | assumption | exact ga G (by decide) rfl | exact lgA LG (by omega)) (by omega) (by omega) ?_ <;> try (refine T_iconst (v := (nI 1)) (pc1 := 44) (pc := 43) k_Wr_triesBit_43 rfl (by decide) ?_ <;> try (refine T_retI (pc := 44) k_Wr_triesBit_44 rfl (by first | rfl | decide | assumption) ?_)))))))))))))
      | refine T_iload_n (pc1 := 27) (pc := 26) k_Wr_triesBit_26 rfl rfl ?_
      | refine T_iconst (v := (nI 1)) (pc1 := 28) (pc := 27) k_Wr_triesBit_27 rfl (by decide) ?_
      | refine T_aload (pc1 := 30) (pc := 28) k_Wr_triesBit_28 rfl rfl ?_
      | refine T_aloadN (pc1 := 30) (pc := 28) k_Wr_triesBit_28 rfl rfl ?_
      | refine T_getV (pc1 := 33) (pc := 30) k_Wr_triesBit_30 rfl f_Wr_34 rfl (by first | assumption | exact ga G (by decide) rfl | exact lgA LG (by omega)) (by first | assumption | (simp (disch := omega) only [pI_eq, pI_row, pI_col, va_up_self, va_up_ne, ne_eq, not_false_eq_true] <;> rfl) | rfl) ?_
      | (refine T_cV (As := [_, _, _]) (d1 := 1) (pc1 := 36) (pc := 33) k_Wr_triesBit_33 rfl (by decide) (Nat.le_of_ble_eq_true rfl) rfl o_Wa_addTry l_Wr_79 rfl (by first | assumption | exact ga G (by decide) rfl | exact lgA LG (by omega)) rfl (c_Wa_addTry g5 g6 g12 w1 w2 ht ?_) <;> try dsimp only [psh])
      | refine T_aload_n (pc1 := 37) (pc := 36) k_Wr_triesBit_36 rfl rfl ?_
      | refine T_aload_nN (pc1 := 37) (pc := 36) k_Wr_triesBit_36 rfl rfl ?_
      | refine T_getR (pc1 := 40) (pc := 37) k_Wr_triesBit_37 rfl f_Wr_9 rfl (by first | assumption | exact ga G (by decide) rfl | exact lgA LG (by omega)) (by first | assumption | exact gr G (by decide) rfl | exact lgR LG (by omega)) ?_
      | refine T_iload_n (pc1 := 41) (pc := 40) k_Wr_triesBit_40 rfl rfl ?_
      | refine T_iconst (v := (nI 0)) (pc1 := 42) (pc := 41) k_Wr_triesBit_41 rfl (by decide) ?_
      | refine T_iastN (pc1 := 43) (pc := 42) k_Wr_triesBit_42 rfl (by first | assumption | exact ga G (by decide) rfl | exact lgA LG (by omega)) (by omega) (by omega) ?_
      | refine T_iconst (v := (nI 1)) (pc1 := 44) (pc := 43) k_Wr_triesBit_43 rfl (by decide) ?_
      | refine T_retI (pc := 44) k_Wr_triesBit_44 rfl (by first | rfl | decide | assumption) ?_)
    refine kt _ hb1 ?_ ?_ ?_ ?_ (fun i hi => ?_) ⟨?_, ?_, ?_, ?_⟩ ?_ ?_ ?_
    · exact fr_pI (fr_pI (fr_pI (fr_pI (fr_pI fr_rf (Or.inl ⟨by omega, by omega⟩)) (Or.inl ⟨by omega, by omega⟩)) (Or.inl ⟨by omega, by omega⟩)) (Or.inl ⟨by omega, by omega⟩)) (Or.inr (Or.inl rfl))
    all_goals simp (disch := omega) only [pI_eq, pI_col, pI_row, pI_rw, pI_self, va_up_ne, va_up_self, ne_eq, w0, w1, w2, w3]
  · -- it is gone
    have htk := tkk_eq ok hb
    obtain ⟨k, o, t, l, r, h0, hk, h1, ho, h2, hto, hne, h3, hl1, hl2, h4, hr, h55⟩ := ok.2.2.2.2.1 b hb
    have e1 : (ed N b).1 = o := by unfold ed; rw [h1]; exact nI_clamp (by omega)
    have e2 : (ed N b).2 = t := by unfold ed; rw [h2]; exact nI_clamp (by omega)
    have eoe : oe N b at0 = if o = at0 then t else o := by unfold oe; rw [e1, e2]
    repeat' (first
      | ((first | refine T_aload_n (pc1 := 46) (pc := 45) k_Wr_triesBit_45 rfl rfl ?_ | refine T_aload_nN (pc1 := 46) (pc := 45) k_Wr_triesBit_45 rfl rfl ?_) <;> try ((first | refine T_aload_n (pc1 := 47) (pc := 46) k_Wr_triesBit_46 rfl rfl ?_ | refine T_aload_nN (pc1 := 47) (pc := 46) k_Wr_triesBit_46 rfl rfl ?_) <;> try ((refine T_cV (As := [_]) (d1 := 4) (pc1 := 50) (pc := 47) k_Wr_triesBit_47 rfl (by decide) (Nat.le_of_ble_eq_true rfl) rfl o_La_takes l_Wr_83 rfl (by first | assumption | exact ga G (by decide) rfl | exact lgA LG (by omega)) rfl (c_La_takesN LG ok LT LB hb (fun J1 hJ1 => ?_)) <;> try dsimp only [psh]))))
      | refine T_aload_n (pc1 := 47) (pc := 46) k_Wr_triesBit_46 rfl rfl ?_
      | refine T_aload_nN (pc1 := 47) (pc := 46) k_Wr_triesBit_46 rfl rfl ?_
      | (refine T_cV (As := [_]) (d1 := 4) (pc1 := 50) (pc := 47) k_Wr_triesBit_47 rfl (by decide) (Nat.le_of_ble_eq_true rfl) rfl o_La_takes l_Wr_83 rfl (by first | assumption | exact ga G (by decide) rfl | exact lgA LG (by omega)) rfl (c_La_takesN LG ok LT LB hb (fun J1 hJ1 => ?_)) <;> try dsimp only [psh]))
    have nsk : ∀ i, i < 121 → J1 i = I i := fun i hi => hJ1 i (fun q => by unfold stk at q; omega)
    have v1 : J1 (a + 4) 1 = nI mi := by rw [nsk _ (by omega)]; exact w1
    have v2 : J1 (a + 4) 2 = nI tr := by rw [nsk _ (by omega)]; exact w2
    have v3 : J1 (a + 4) 3 = nI at0 := by rw [nsk _ (by omega)]; exact w3
    have f1 : J1 (a + 6 + b) 1 = nI o := by rw [nsk _ (by omega)]; exact (b4 b hb 1 (by decide)).trans h1
    have f2 : J1 (a + 6 + b) 2 = nI t := by rw [nsk _ (by omega)]; exact (b4 b hb 2 (by decide)).trans h2
    have f4 : J1 (a + 6 + b) 4 = nI r := by rw [nsk _ (by omega)]; exact (b4 b hb 4 (by decide)).trans h4
    have c64b : J1 64 b = nI (c b) := by rw [nsk _ (by omega)]; exact c64
    repeat' (first
      | (refine T_istore (pc1 := 52) (pc := 50) k_Wr_triesBit_50 rfl (Nat.le_of_ble_eq_true rfl) ?_ <;> try ((first | refine T_aload (pc1 := 54) (pc := 52) k_Wr_triesBit_52 rfl rfl ?_ | refine T_aloadN (pc1 := 54) (pc := 52) k_Wr_triesBit_52 rfl rfl ?_) <;> try (refine T_iload_n (pc1 := 55) (pc := 54) k_Wr_triesBit_54 rfl rfl ?_ <;> try (refine T_iload (pc1 := 57) (pc := 55) k_Wr_triesBit_55 rfl rfl ?_ <;> try ((first | refine T_aload_n (pc1 := 58) (pc := 57) k_Wr_triesBit_57 rfl rfl ?_ | refine T_aload_nN (pc1 := 58) (pc := 57) k_Wr_triesBit_57 rfl rfl ?_) <;> try ((first | refine T_aload (pc1 := 60) (pc := 58) k_Wr_triesBit_58 rfl rfl ?_ | refine T_aloadN (pc1 := 60) (pc := 58) k_Wr_triesBit_58 rfl rfl ?_) <;> try (refine T_getV (pc1 := 63) (pc := 60) k_Wr_triesBit_60 rfl f_Wr_34 rfl (by first | assumption | exact ga G (by decide) rfl | exact lgA LG (by omega)) (by first | assumption | (simp (disch := omega) only [pI_eq, pI_row, pI_col, va_up_self, va_up_ne, ne_eq, not_false_eq_true, f4, c64b] <;> rfl) | rfl) ?_ <;> try ((refine T_cV (As := [_]) (d1 := 1) (pc1 := 66) (pc := 63) k_Wr_triesBit_63 rfl (by decide) (Nat.le_of_ble_eq_true rfl) rfl o_B_endFrom l_Wr_87 rfl (by first | assumption | exact ga G (by decide) rfl | exact lgA LG (by omega)) rfl (c_B_endFrom gb f1 f2 ho hto ha ?_) <;> try dsimp only [psh]) <;> try ((refine T_cV (As := [_, _, _]) (d1 := 1) (pc1 := 69) (pc := 66) k_Wr_triesBit_66 rfl (by decide) (Nat.le_of_ble_eq_true rfl) rfl o_Wa_addTry l_Wr_79 rfl (by first | assumption | exact ga G (by decide) rfl | exact lgA LG (by omega)) rfl (c_Wa_addTry g5 g6 g12 v1 v2 ht ?_) <;> try dsimp only [psh]) <;> try ((first | refine T_aload_n (pc1 := 70) (pc := 69) k_Wr_triesBit_69 rfl rfl ?_ | refine T_aload_nN (pc1 := 70) (pc := 69) k_Wr_triesBit_69 rfl rfl ?_) <;> try (refine T_iload (pc1 := 72) (pc := 70) k_Wr_triesBit_70 rfl rfl ?_ <;> try (refine T_sipush (v := (nI 999)) (pc1 := 75) (pc := 72) k_Wr_triesBit_72 rfl (by decide) ?_ <;> try ((first | refine T_mminV (pc1 := 78) (pc := 75) k_Wr_triesBit_75 rfl l_Wr_91 (by decide) (Nat.le_of_ble_eq_true rfl) (by with_reducible rfl) (by with_reducible rfl) (by omega) (by omega) ?_ | refine T_mmin (pc1 := 78) (pc := 75) k_Wr_triesBit_75 rfl l_Wr_91 (by decide) (Nat.le_of_ble_eq_true rfl) ?_) <;> try (refine T_putI (pc1 := 81) (pc := 78) k_Wr_triesBit_78 rfl f_Wr_97 rfl (by first | assumption | exact ga G (by decide) rfl | exact lgA LG (by omega)) (by first | rfl | decide | assumption) (by first | rfl | decide | assumption) ?_))))))))))))))
      | ((first | refine T_aload_n (pc1 := 82) (pc := 81) k_Wr_triesBit_81 rfl rfl ?_ | refine T_aload_nN (pc1 := 82) (pc := 81) k_Wr_triesBit_81 rfl rfl ?_) <;> try ((first | refine T_aload_n (pc1 := 83) (pc := 82) k_Wr_triesBit_82 rfl rfl ?_ | refine T_aload_nN (pc1 := 83) (pc := 82) k_Wr_triesBit_82 rfl rfl ?_) <;> try (refine T_getV (pc1 := 86) (pc := 83) k_Wr_triesBit_83 rfl f_Wr_100 rfl (by first | assumption | exact ga G (by decide) rfl | exact lgA LG (by omega)) (by first | assumption | (simp (disch := omega) only [pI_eq, pI_row, pI_col, va_up_self, va_up_ne, ne_eq, not_false_eq_true, f4, c64b] <;> rfl) | rfl) ?_ <;> try (refine T_iconst (v := (nI 1)) (pc1 := 87) (pc := 86) k_Wr_triesBit_86 rfl (by decide) ?_ <;> try ((first | with_reducible refine T_iaddN (pc1 := 88) (pc := 87) k_Wr_triesBit_87 (by decide) ?_ | refine T_iadd (pc1 := 88) (pc := 87) k_Wr_triesBit_87 rfl ?_) <;> try (refine T_sipush (v := (nI 999)) (pc1 := 91) (pc := 88) k_Wr_triesBit_88 rfl (by decide) ?_ <;> try ((first | refine T_mminV (pc1 := 94) (pc := 91) k_Wr_triesBit_91 rfl l_Wr_91 (by decide) (Nat.le_of_ble_eq_true rfl) (by with_reducible rfl) (by with_reducible rfl) (by omega) (by omega) ?_ | refine T_mmin (pc1 := 94) (pc := 91) k_Wr_triesBit_91 rfl l_Wr_91 (by decide) (Nat.le_of_ble_eq_true rfl) ?_) <;> try (refine T_putI (pc1 := 97) (pc := 94) k_Wr_triesBit_94 rfl f_Wr_100 rfl (by first | assumption | exact ga G (by decide) rfl | exact lgA LG (by omega)) (by first | rfl | decide | assumption) (by first | rfl | decide | assumption) ?_ <;> try ((first | refine T_aload_n (pc1 := 98) (pc := 97) k_Wr_triesBit_97 rfl rfl ?_ | refine T_aload_nN (pc1 := 98) (pc := 97) k_Wr_triesBit_97 rfl rfl ?_) <;> try (refine T_getR (pc1 := 101) (pc := 98) k_Wr_triesBit_98 rfl f_Wr_9 rfl (by first | assumption | exact ga G (by decide) rfl | exact lgA LG (by omega)) (by first | assumption | exact gr G (by decide) rfl | exact lgR LG (by omega)) ?_ <;> try (refine T_iload_n (pc1 := 102) (pc := 101) k_Wr_triesBit_101 rfl rfl ?_ <;> try ((first | refine T_ialdN (pc1 := 103) (pc := 102) k_Wr_triesBit_102 rfl (by first | assumption | exact ga G (by decide) rfl | exact lgA LG (by omega)) (by omega) (by omega) (by first | assumption | (simp (disch := omega) only [pI_eq, pI_row, pI_col, va_up_self, va_up_ne, ne_eq, not_false_eq_true, f4, c64b] <;> rfl) | rfl) ?_ | refine T_iald (pc1 := 103) (pc := 102) k_Wr_triesBit_102 rfl (by first | assumption | exact ga G (by decide) rfl | exact lgA LG (by omega)) (by assumption) ?_) <;> try (refine T_istore (pc1 := 105) (pc := 103) k_Wr_triesBit_103 rfl (Nat.le_of_ble_eq_true rfl) ?_ <;> try ((first | refine T_aload_n (pc1 := 106) (pc := 105) k_Wr_triesBit_105 rfl rfl ?_ | refine T_aload_nN (pc1 := 106) (pc := 105) k_Wr_triesBit_105 rfl rfl ?_)))))))))))))))
      | (refine T_getR (pc1 := 109) (pc := 106) k_Wr_triesBit_106 rfl f_Wr_9 rfl (by first | assumption | exact ga G (by decide) rfl | exact lgA LG (by omega)) (by first | assumption | exact gr G (by decide) rfl | exact lgR LG (by omega)) ?_ <;> try (refine T_iload_n (pc1 := 110) (pc := 109) k_Wr_triesBit_109 rfl rfl ?_ <;> try ((first | refine T_aload_n (pc1 := 111) (pc := 110) k_Wr_triesBit_110 rfl rfl ?_ | refine T_aload_nN (pc1 := 111) (pc := 110) k_Wr_triesBit_110 rfl rfl ?_) <;> try ((first | refine T_aload_n (pc1 := 112) (pc := 111) k_Wr_triesBit_111 rfl rfl ?_ | refine T_aload_nN (pc1 := 112) (pc := 111) k_Wr_triesBit_111 rfl rfl ?_)))))
      | refine T_aload (pc1 := 54) (pc := 52) k_Wr_triesBit_52 rfl rfl ?_
      | refine T_aloadN (pc1 := 54) (pc := 52) k_Wr_triesBit_52 rfl rfl ?_
      | refine T_iload_n (pc1 := 55) (pc := 54) k_Wr_triesBit_54 rfl rfl ?_
      | refine T_iload (pc1 := 57) (pc := 55) k_Wr_triesBit_55 rfl rfl ?_
      | refine T_aload_n (pc1 := 58) (pc := 57) k_Wr_triesBit_57 rfl rfl ?_
      | refine T_aload_nN (pc1 := 58) (pc := 57) k_Wr_triesBit_57 rfl rfl ?_
      | refine T_aload (pc1 := 60) (pc := 58) k_Wr_triesBit_58 rfl rfl ?_
      | refine T_aloadN (pc1 := 60) (pc := 58) k_Wr_triesBit_58 rfl rfl ?_
      | refine T_getV (pc1 := 63) (pc := 60) k_Wr_triesBit_60 rfl f_Wr_34 rfl (by first | assumption | exact ga G (by decide) rfl | exact lgA LG (by omega)) (by first | assumption | (simp (disch := omega) only [pI_eq, pI_row, pI_col, va_up_self, va_up_ne, ne_eq, not_false_eq_true, f4, c64b] <;> rfl) | rfl) ?_
      | (refine T_cV (As := [_]) (d1 := 1) (pc1 := 66) (pc := 63) k_Wr_triesBit_63 rfl (by decide) (Nat.le_of_ble_eq_true rfl) rfl o_B_endFrom l_Wr_87 rfl (by first | assumption | exact ga G (by decide) rfl | exact lgA LG (by omega)) rfl (c_B_endFrom gb f1 f2 ho hto ha ?_) <;> try dsimp only [psh])
      | (refine T_cV (As := [_, _, _]) (d1 := 1) (pc1 := 69) (pc := 66) k_Wr_triesBit_66 rfl (by decide) (Nat.le_of_ble_eq_true rfl) rfl o_Wa_addTry l_Wr_79 rfl (by first | assumption | exact ga G (by decide) rfl | exact lgA LG (by omega)) rfl (c_Wa_addTry g5 g6 g12 v1 v2 ht ?_) <;> try dsimp only [psh])
      | refine T_aload_n (pc1 := 70) (pc := 69) k_Wr_triesBit_69 rfl rfl ?_
      | refine T_aload_nN (pc1 := 70) (pc := 69) k_Wr_triesBit_69 rfl rfl ?_
      | refine T_iload (pc1 := 72) (pc := 70) k_Wr_triesBit_70 rfl rfl ?_
      | refine T_sipush (v := (nI 999)) (pc1 := 75) (pc := 72) k_Wr_triesBit_72 rfl (by decide) ?_
      | refine T_mminV (pc1 := 78) (pc := 75) k_Wr_triesBit_75 rfl l_Wr_91 (by decide) (Nat.le_of_ble_eq_true rfl) (by with_reducible rfl) (by with_reducible rfl) (by omega) (by omega) ?_
      | refine T_mmin (pc1 := 78) (pc := 75) k_Wr_triesBit_75 rfl l_Wr_91 (by decide) (Nat.le_of_ble_eq_true rfl) ?_
      | refine T_putI (pc1 := 81) (pc := 78) k_Wr_triesBit_78 rfl f_Wr_97 rfl (by first | assumption | exact ga G (by decide) rfl | exact lgA LG (by omega)) (by first | rfl | decide | assumption) (by first | rfl | decide | assumption) ?_
      | refine T_aload_n (pc1 := 83) (pc := 82) k_Wr_triesBit_82 rfl rfl ?_
      | refine T_aload_nN (pc1 := 83) (pc := 82) k_Wr_triesBit_82 rfl rfl ?_
      | refine T_getV (pc1 := 86) (pc := 83) k_Wr_triesBit_83 rfl f_Wr_100 rfl (by first | assumption | exact ga G (by decide) rfl | exact lgA LG (by omega)) (by first | assumption | (simp (disch := omega) only [pI_eq, pI_row, pI_col, va_up_self, va_up_ne, ne_eq, not_false_eq_true, f4, c64b] <;> rfl) | rfl) ?_
      | refine T_iconst (v := (nI 1)) (pc1 := 87) (pc := 86) k_Wr_triesBit_86 rfl (by decide) ?_
      | with_reducible refine T_iaddN (pc1 := 88) (pc := 87) k_Wr_triesBit_87 (by decide) ?_
      | refine T_iadd (pc1 := 88) (pc := 87) k_Wr_triesBit_87 rfl ?_
      | refine T_sipush (v := (nI 999)) (pc1 := 91) (pc := 88) k_Wr_triesBit_88 rfl (by decide) ?_
      | refine T_mminV (pc1 := 94) (pc := 91) k_Wr_triesBit_91 rfl l_Wr_91 (by decide) (Nat.le_of_ble_eq_true rfl) (by with_reducible rfl) (by with_reducible rfl) (by omega) (by omega) ?_
      | refine T_mmin (pc1 := 94) (pc := 91) k_Wr_triesBit_91 rfl l_Wr_91 (by decide) (Nat.le_of_ble_eq_true rfl) ?_
      | refine T_putI (pc1 := 97) (pc := 94) k_Wr_triesBit_94 rfl f_Wr_100 rfl (by first | assumption | exact ga G (by decide) rfl | exact lgA LG (by omega)) (by first | rfl | decide | assumption) (by first | rfl | decide | assumption) ?_
      | refine T_aload_n (pc1 := 98) (pc := 97) k_Wr_triesBit_97 rfl rfl ?_
      | refine T_aload_nN (pc1 := 98) (pc := 97) k_Wr_triesBit_97 rfl rfl ?_
      | refine T_getR (pc1 := 101) (pc := 98) k_Wr_triesBit_98 rfl f_Wr_9 rfl (by first | assumption | exact ga G (by decide) rfl | exact lgA LG (by omega)) (by first | assumption | exact gr G (by decide) rfl | exact lgR LG (by omega)) ?_
      | refine T_iload_n (pc1 := 102) (pc := 101) k_Wr_triesBit_101 rfl rfl ?_
      | refine T_ialdN (pc1 := 103) (pc := 102) k_Wr_triesBit_102 rfl (by first | assumption | exact ga G (by decide) rfl | exact lgA LG (by omega)) (by omega) (by omega) (by first | assumption | (simp (disch := omega) only [pI_eq, pI_row, pI_col, va_up_self, va_up_ne, ne_eq, not_false_eq_true, f4, c64b] <;> rfl) | rfl) ?_
      | refine T_iald (pc1 := 103) (pc := 102) k_Wr_triesBit_102 rfl (by first | assumption | exact ga G (by decide) rfl | exact lgA LG (by omega)) (by assumption) ?_
      | refine T_istore (pc1 := 105) (pc := 103) k_Wr_triesBit_103 rfl (Nat.le_of_ble_eq_true rfl) ?_
      | refine T_aload_n (pc1 := 106) (pc := 105) k_Wr_triesBit_105 rfl rfl ?_
      | refine T_aload_nN (pc1 := 106) (pc := 105) k_Wr_triesBit_105 rfl rfl ?_
      | refine T_iload_n (pc1 := 110) (pc := 109) k_Wr_triesBit_109 rfl rfl ?_
      | refine T_aload_n (pc1 := 111) (pc := 110) k_Wr_triesBit_110 rfl rfl ?_
      | refine T_aload_nN (pc1 := 111) (pc := 110) k_Wr_triesBit_110 rfl rfl ?_
      | refine T_aload_n (pc1 := 112) (pc := 111) k_Wr_triesBit_111 rfl rfl ?_
      | refine T_aload_nN (pc1 := 112) (pc := 111) k_Wr_triesBit_111 rfl rfl ?_)
    rw [← eoe]
    -- the bits now
    have hrow : ∀ (J2 : IM), J2 = pI (pI (pI (pI (pI (pI J1 (a + 5) tr (nI b)) (a + 4) 2 (nI (tr + 1))) (a + 4) 1 (nI (mi + tkk N tn b))) (a + 4) 3 (nI (oe N b at0))) (a + 6 + b) 5 (nI (min (tkk N tn b) 999))) (a + 6 + b) 4 (nI (min (r + 1) 999)) → fre (wf1 a) I J2 ∧ J2 a = I a ∧ J2 (a + 3) = I (a + 3) ∧ J2 65 = I 65 ∧ J2 64 = I 64 ∧ LBt J2 a (goN N tn b tr) n ∧ WkS J2 a (mi + tkk N tn b) (tr + 1) (oe N b at0) ∧ J2 (a + 4) 4 = I (a + 4) 4 ∧ J2 (a + 5) = va_up (I (a + 5)) tr (nI b) := by
      intro J2 hJ2
      subst hJ2
      refine ⟨?_, ?_, ?_, ?_, ?_, ⟨?_, ?_, ?_, fun j hj k2 hk2 => ?_⟩, ⟨?_, ?_, ?_, ?_⟩, ?_, ?_⟩
      · exact fr_pI (fr_pI (fr_pI (fr_pI (fr_pI (fr_pI (fr_mono hJ1 (fun i hi => Or.inr (Or.inr (Or.inr hi)))) (Or.inl ⟨by omega, by omega⟩)) (Or.inl ⟨by omega, by omega⟩)) (Or.inl ⟨by omega, by omega⟩)) (Or.inl ⟨by omega, by omega⟩)) (Or.inl ⟨by omega, by omega⟩)) (Or.inl ⟨by omega, by omega⟩)
      · simp (disch := omega) only [pI_rw, ne_eq]; exact nsk _ (by omega)
      · simp (disch := omega) only [pI_rw, ne_eq]; exact nsk _ (by omega)
      · simp (disch := omega) only [pI_rw, ne_eq]; exact nsk _ (by omega)
      · simp (disch := omega) only [pI_rw, ne_eq]; exact nsk _ (by omega)
      · simp (disch := omega) only [pI_rw, ne_eq]; rw [nsk _ (by omega)]; exact b1
      · simp (disch := omega) only [pI_rw, ne_eq]; rw [nsk _ (by omega), goN_ne (by omega) (by omega) (by omega)]; exact b2
      · simp (disch := omega) only [pI_rw, ne_eq]; rw [nsk _ (by omega), goN_ne (by omega) (by omega) (by omega)]; exact b3
      · by_cases hjb : j = b
        · subst hjb
          by_cases k4 : k2 = 4
          · subst k4
            rw [pI_eq, goN_4, h4, trod_eq hr, Nat.min_comm]
          · by_cases k5 : k2 = 5
            · subst k5
              rw [pI_col (by decide), pI_eq, goN_5, Nat.min_comm]
            · rw [pI_col k4, pI_col k5, pI_row (by omega), pI_row (by omega), pI_row (by omega), pI_row (by omega), nsk _ (by omega), goN_bf (by omega) (by omega) hk2 (Or.inr (by omega))]
              exact b4 j hj k2 hk2
        · rw [pI_row (by omega), pI_row (by omega), pI_row (by omega), pI_row (by omega), pI_row (by omega), pI_row (by omega), nsk _ (by omega), goN_bf (by omega) (by omega) hk2 (Or.inl hjb)]
          exact b4 j hj k2 hk2
      · simp (disch := omega) only [pI_row, pI_col, ne_eq]; rw [nsk _ (by omega)]; exact w0
      · simp (disch := omega) only [pI_row, pI_col, pI_eq, ne_eq]
      · simp (disch := omega) only [pI_row, pI_col, pI_eq, ne_eq]
      · simp (disch := omega) only [pI_row, pI_col, pI_eq, ne_eq]
      · simp (disch := omega) only [pI_row, pI_col, ne_eq]; rw [nsk _ (by omega)]
      · simp (disch := omega) only [pI_rw, pI_self, ne_eq]; rw [nsk _ (by omega)]
    generalize hJ2 : pI (pI (pI (pI (pI (pI J1 (a + 5) tr (nI b)) (a + 4) 2 (nI (tr + 1))) (a + 4) 1 (nI (mi + tkk N tn b))) (a + 4) 3 (nI (oe N b at0))) (a + 6 + b) 5 (nI (min (tkk N tn b) 999))) (a + 6 + b) 4 (nI (min (r + 1) 999)) = J2
    obtain ⟨q1, q2, q3, q4, q5, q6, q7, q8, q9⟩ := hrow J2 hJ2.symm
    have okg := okL_go (tr := tr) ok hb ht
    have LT2 : LTx g J2 a (goN N tn b tr) tn := LTx_fr LT q1 (fun i => wf1_s g14) q3 (by rw [q2]) (fun k hk => goN_ne (by omega) (by omega) (by omega))
    have tq := thk_eq okg hb
    (refine T_cV (As := [_]) (d1 := 4) (pc1 := 115) (pc := 112) k_Wr_triesBit_112 rfl (by decide) (Nat.le_of_ble_eq_true rfl) rfl o_La_thinks l_Wr_103 rfl (by first | assumption | exact ga G (by decide) rfl | exact lgA LG (by omega)) rfl (c_La_thinksN LG okg LT2 q6 hb (fun J3 hJ3 => ?_)) <;> try dsimp only [psh])
    have n3 : ∀ i, i < 121 → J3 i = J2 i := fun i hi => hJ3 i (fun q => by unfold stk at q; omega)
    have fin : ∀ x, x = (if thk (goN N tn b tr) tn b = c b then 0 else 1) → K (some (.int (nI x))) g (pI J3 64 b (nI (thk (goN N tn b tr) tn b))) := by
      intro x hx
      subst hx
      refine kf _ hb1 (fr_pI (fr_tr q1 (fr_mono hJ3 (fun i hi => Or.inr (Or.inr (Or.inr hi))))) (Or.inr (Or.inl rfl))) ?_ ?_ ?_ ?_ ?_ ?_ ?_ ?_
      · rw [pI_rw (by omega), n3 _ (by omega)]; exact q2
      · rw [pI_rw (by omega), n3 _ (by omega)]; exact q3
      · rw [pI_rw (by omega), n3 _ (by omega)]; exact q4
      · refine LBt_fr (P := fun i => i = 64 ∨ stk i) q6 h14 (fr_pI (fr_mono hJ3 (fun i hi => Or.inr hi)) (Or.inl rfl)) (fun i => cf_l g14)
      · obtain ⟨y0, y1, y2, y3⟩ := q7
        refine ⟨?_, ?_, ?_, ?_⟩
        · rw [pI_row (by omega), n3 _ (by omega)]; exact y0
        · rw [pI_row (by omega), n3 _ (by omega)]; exact y1
        · rw [pI_row (by omega), n3 _ (by omega)]; exact y2
        · rw [pI_row (by omega), n3 _ (by omega)]; exact y3
      · rw [pI_row (by omega), n3 _ (by omega)]; exact q8
      · rw [pI_rw (by omega), n3 _ (by omega)]; exact q9
      · rw [pI_self, n3 _ (by omega), q5]
    repeat' (first
      | (refine T_iastN (pc1 := 116) (pc := 115) k_Wr_triesBit_115 rfl (by first | assumption | exact ga G (by decide) rfl | exact lgA LG (by omega)) (by omega) (by omega) ?_ <;> try ((first | refine T_aload_n (pc1 := 117) (pc := 116) k_Wr_triesBit_116 rfl rfl ?_ | refine T_aload_nN (pc1 := 117) (pc := 116) k_Wr_triesBit_116 rfl rfl ?_) <;> try (refine T_getR (pc1 := 120) (pc := 117) k_Wr_triesBit_117 rfl f_Wr_9 rfl (by first | assumption | exact ga G (by decide) rfl | exact lgA LG (by omega)) (by first | assumption | exact gr G (by decide) rfl | exact lgR LG (by omega)) ?_ <;> try (refine T_iload_n (pc1 := 121) (pc := 120) k_Wr_triesBit_120 rfl rfl ?_ <;> try ((first | refine T_ialdN (pc1 := 122) (pc := 121) k_Wr_triesBit_121 rfl (by first | assumption | exact ga G (by decide) rfl | exact lgA LG (by omega)) (by omega) (by omega) (by first | assumption | (simp (disch := omega) only [pI_eq, pI_row, pI_col, va_up_self, va_up_ne, ne_eq, not_false_eq_true] <;> rfl) | rfl) ?_ | refine T_iald (pc1 := 122) (pc := 121) k_Wr_triesBit_121 rfl (by first | assumption | exact ga G (by decide) rfl | exact lgA LG (by omega)) (by assumption) ?_) <;> try (refine T_iload (pc1 := 124) (pc := 122) k_Wr_triesBit_122 rfl rfl ?_ <;> try ((first | (with_reducible refine T_icmp_eqN (tgt := 131) (pc1 := 127) (pc := 124) k_Wr_triesBit_124 (by decide) (by decide) (by omega) (by omega) (fun hc => ?_) (fun hc => ?_) <;> first | (exfalso; omega) | skip) | refine T_icmp_eq_t (tgt := 131) (pc := 124) k_Wr_triesBit_124 rfl (by decide) ?_ | refine T_icmp_eq_f (tgt := 131) (pc1 := 127) (pc := 124) k_Wr_triesBit_124 rfl rfl (by decide) ?_ | refine T_icmp_eq (tgt := 131) (pc1 := 127) (pc := 124) k_Wr_triesBit_124 rfl rfl (fun hc => ?_) (fun hc => ?_)))))))))
      | (refine T_iconst (v := (nI 1)) (pc1 := 128) (pc := 127) k_Wr_triesBit_127 rfl (by decide) ?_ <;> try (refine T_goto (tgt := 132) (pc := 128) k_Wr_triesBit_128 rfl ?_))
      | (refine T_iconst (v := (nI 0)) (pc1 := 132) (pc := 131) k_Wr_triesBit_131 rfl (by decide) ?_)
      | (refine T_retI (pc := 132) k_Wr_triesBit_132 rfl (by first | rfl | decide | assumption) ?_)
      | refine T_aload_n (pc1 := 117) (pc := 116) k_Wr_triesBit_116 rfl rfl ?_
      | refine T_aload_nN (pc1 := 117) (pc := 116) k_Wr_triesBit_116 rfl rfl ?_
      | refine T_getR (pc1 := 120) (pc := 117) k_Wr_triesBit_117 rfl f_Wr_9 rfl (by first | assumption | exact ga G (by decide) rfl | exact lgA LG (by omega)) (by first | assumption | exact gr G (by decide) rfl | exact lgR LG (by omega)) ?_
      | refine T_iload_n (pc1 := 121) (pc := 120) k_Wr_triesBit_120 rfl rfl ?_
      | refine T_ialdN (pc1 := 122) (pc := 121) k_Wr_triesBit_121 rfl (by first | assumption | exact ga G (by decide) rfl | exact lgA LG (by omega)) (by omega) (by omega) (by first | assumption | (simp (disch := omega) only [pI_eq, pI_row, pI_col, va_up_self, va_up_ne, ne_eq, not_false_eq_true] <;> rfl) | rfl) ?_
      | refine T_iald (pc1 := 122) (pc := 121) k_Wr_triesBit_121 rfl (by first | assumption | exact ga G (by decide) rfl | exact lgA LG (by omega)) (by assumption) ?_
      | refine T_iload (pc1 := 124) (pc := 122) k_Wr_triesBit_122 rfl rfl ?_
      | (with_reducible refine T_icmp_eqN (tgt := 131) (pc1 := 127) (pc := 124) k_Wr_triesBit_124 (by decide) (by decide) (by omega) (by omega) (fun hc => ?_) (fun hc => ?_) <;> first | (exfalso; omega) | skip)
      | refine T_icmp_eq_t (tgt := 131) (pc := 124) k_Wr_triesBit_124 rfl (by decide) ?_
      | refine T_icmp_eq_f (tgt := 131) (pc1 := 127) (pc := 124) k_Wr_triesBit_124 rfl rfl (by decide) ?_
      | refine T_icmp_eq (tgt := 131) (pc1 := 127) (pc := 124) k_Wr_triesBit_124 rfl rfl (fun hc => ?_) (fun hc => ?_)
      | refine T_goto (tgt := 132) (pc := 128) k_Wr_triesBit_128 rfl ?_)
    all_goals first | exact fin 1 (by rw [if_neg (by omega)]) | exact fin 0 (by rw [if_pos (by omega)]) | (exfalso; omega)
end C5
