/-! The class's calls: rows told, images, counts, the tape. -/
section PS7
def CW (I : IM) (Wt : Row) (w : Nat) : Prop := I 0 10 = nI w ∧ ∀ k, k < w → I 72 k = Wt k
def CT (I : IM) (T : Row) (z : Nat) : Prop := I 67 1 = nI z ∧ ∀ k, k < z → I 68 k = T k
theorem byt_rg (v : Int32) (k : Nat) : rg 256 (nI (byt v k)) := rg_nI (by unfold byt; omega) (by omega)
theorem lay4_ok {T : Row} {z : Nat} {v : Int32} (h : ∀ k, k < z → rg 256 (T k)) : ∀ k, k < z + 4 → rg 256 (lay4 T z v k) := by
  intro k hk
  unfold lay4
  by_cases h3 : k = z + 3
  · subst h3; rw [va_up_self]; exact byt_rg _ _
  rw [va_up_ne _ _ h3]
  by_cases h2 : k = z + 2
  · subst h2; rw [va_up_self]; exact byt_rg _ _
  rw [va_up_ne _ _ h2]
  by_cases h1 : k = z + 1
  · subst h1; rw [va_up_self]; exact byt_rg _ _
  rw [va_up_ne _ _ h1]
  by_cases h0 : k = z
  · subst h0; rw [va_up_self]; exact byt_rg _ _
  rw [va_up_ne _ _ h0]
  exact h k (by omega)
theorem okTp_feed {T : Row} {z : Nat} {a b c : Int32} (h : okTp T z) : okTp (feedT T z a b c) (feedZ z) := by
  unfold feedT feedZ
  by_cases q : z + 12 ≤ 96
  · rw [if_pos q, if_pos q]
    exact ⟨q, lay4_ok (z := z + 8) (lay4_ok (z := z + 4) (lay4_ok h.2))⟩
  · rw [if_neg q, if_neg q]; exact h
theorem lay4_cell {T A : Row} {z : Nat} {v : Int32} (h : ∀ k, k < z → A k = T k) : ∀ k, k < z + 4 → lay4 A z v k = lay4 T z v k := by
  intro k hk
  unfold lay4
  by_cases h3 : k = z + 3
  · subst h3; rw [va_up_self, va_up_self]
  rw [va_up_ne _ _ h3, va_up_ne _ _ h3]
  by_cases h2 : k = z + 2
  · subst h2; rw [va_up_self, va_up_self]
  rw [va_up_ne _ _ h2, va_up_ne _ _ h2]
  by_cases h1 : k = z + 1
  · subst h1; rw [va_up_self, va_up_self]
  rw [va_up_ne _ _ h1, va_up_ne _ _ h1]
  by_cases h0 : k = z
  · subst h0; rw [va_up_self, va_up_self]
  rw [va_up_ne _ _ h0, va_up_ne _ _ h0]
  exact h k (by omega)
def tpf (i : Nat) : Prop := i = 67 ∨ i = 68
end PS7
section S7
variable {g : Geo} {I : IM} {K : Option Value → Geo → IM → Prop}
theorem c_S_tell {Wt : Row} {w : Nat} {v : Int32} (G : GeoOK g) (hW : CW I Wt w) (h60 : w ≤ 60) (kk : ∀ J r, fre (fun i => i = 0 ∨ i = 72) I J → (∀ k, k ≠ 10 → J 0 k = I 0 k) → CW J (tellR Wt w v) (tellW w) → r = tellA w → K (some (.int r)) g J) : Cl 1 M_S_tell [.ref 0, .int v] g I K := by
  show Rl 1 M_S_tell 0 [some (.ref 0), some (.int v)] [] g I K
  obtain ⟨h1, h2⟩ := id hW
  unfold tellR tellW tellA at kk
  by_cases hw : w = 60
  · rw [if_pos hw, if_pos hw, if_pos hw] at kk
    have kk := kk I _ fr_rf (fun _ _ => rfl) hW rfl
    repeat' (first
      | ((first | refine T_aload_n (pc1 := 1) (pc := 0) k_S_tell_0 rfl rfl ?_ | refine T_aload_nN (pc1 := 1) (pc := 0) k_S_tell_0 rfl rfl ?_) <;> try (refine T_getV (pc1 := 4) (pc := 1) k_S_tell_1 rfl f_S_63 rfl (by first | assumption | exact ga G (by decide) rfl | exact lgA LG (by omega)) (by first | assumption | (simp (disch := omega) only [pI_eq, pI_row, pI_col, va_up_self, va_up_ne, ne_eq, not_false_eq_true] <;> rfl) | rfl) ?_ <;> try (refine T_bipush (v := (nI 60)) (pc1 := 6) (pc := 4) k_S_tell_4 rfl (by decide) ?_ <;> try ((first | (with_reducible refine T_icmp_ltN (tgt := 12) (pc1 := 9) (pc := 6) k_S_tell_6 (by decide) (by decide) (by omega) (by omega) (fun hc => ?_) (fun hc => ?_) <;> first | (exfalso; omega) | skip) | refine T_icmp_lt_t (tgt := 12) (pc := 6) k_S_tell_6 rfl (by decide) ?_ | refine T_icmp_lt_f (tgt := 12) (pc1 := 9) (pc := 6) k_S_tell_6 rfl rfl (by decide) ?_ | refine T_icmp_lt (tgt := 12) (pc1 := 9) (pc := 6) k_S_tell_6 rfl rfl (fun hc => ?_) (fun hc => ?_))))))
      | (refine T_ldc (v := (-1000000003)) (pc1 := 11) (pc := 9) k_S_tell_9 rfl c_S_85 ?_ <;> try (refine T_retI (pc := 11) k_S_tell_11 rfl (by first | rfl | decide | assumption) ?_))
      | refine T_getV (pc1 := 4) (pc := 1) k_S_tell_1 rfl f_S_63 rfl (by first | assumption | exact ga G (by decide) rfl | exact lgA LG (by omega)) (by first | assumption | (simp (disch := omega) only [pI_eq, pI_row, pI_col, va_up_self, va_up_ne, ne_eq, not_false_eq_true] <;> rfl) | rfl) ?_
      | refine T_bipush (v := (nI 60)) (pc1 := 6) (pc := 4) k_S_tell_4 rfl (by decide) ?_
      | (with_reducible refine T_icmp_ltN (tgt := 12) (pc1 := 9) (pc := 6) k_S_tell_6 (by decide) (by decide) (by omega) (by omega) (fun hc => ?_) (fun hc => ?_) <;> first | (exfalso; omega) | skip)
      | refine T_icmp_lt_t (tgt := 12) (pc := 6) k_S_tell_6 rfl (by decide) ?_
      | refine T_icmp_lt_f (tgt := 12) (pc1 := 9) (pc := 6) k_S_tell_6 rfl rfl (by decide) ?_
      | refine T_icmp_lt (tgt := 12) (pc1 := 9) (pc := 6) k_S_tell_6 rfl rfl (fun hc => ?_) (fun hc => ?_)
      | refine T_retI (pc := 11) k_S_tell_11 rfl (by first | rfl | decide | assumption) ?_)
    all_goals first | exact kk | (exfalso; omega)
  · rw [if_neg hw, if_neg hw, if_neg hw] at kk
    repeat' (first
      | ((first | refine T_aload_n (pc1 := 1) (pc := 0) k_S_tell_0 rfl rfl ?_ | refine T_aload_nN (pc1 := 1) (pc := 0) k_S_tell_0 rfl rfl ?_) <;> try (refine T_getV (pc1 := 4) (pc := 1) k_S_tell_1 rfl f_S_63 rfl (by first | assumption | exact ga G (by decide) rfl | exact lgA LG (by omega)) (by first | assumption | (simp (disch := omega) only [pI_eq, pI_row, pI_col, va_up_self, va_up_ne, ne_eq, not_false_eq_true, h1] <;> rfl) | rfl) ?_ <;> try (refine T_bipush (v := (nI 60)) (pc1 := 6) (pc := 4) k_S_tell_4 rfl (by decide) ?_ <;> try ((first | (with_reducible refine T_icmp_ltN (tgt := 12) (pc1 := 9) (pc := 6) k_S_tell_6 (by decide) (by decide) (by omega) (by omega) (fun hc => ?_) (fun hc => ?_) <;> first | (exfalso; omega) | skip) | refine T_icmp_lt_t (tgt := 12) (pc := 6) k_S_tell_6 rfl (by decide) ?_ | refine T_icmp_lt_f (tgt := 12) (pc1 := 9) (pc := 6) k_S_tell_6 rfl rfl (by decide) ?_ | refine T_icmp_lt (tgt := 12) (pc1 := 9) (pc := 6) k_S_tell_6 rfl rfl (fun hc => ?_) (fun hc => ?_))))))
      | (refine T_ldc (v := (-1000000003)) (pc1 := 11) (pc := 9) k_S_tell_9 rfl c_S_85 ?_ <;> try (refine T_retI (pc := 11) k_S_tell_11 rfl (by first | rfl | decide | assumption) ?_))
      | ((first | refine T_aload_n (pc1 := 13) (pc := 12) k_S_tell_12 rfl rfl ?_ | refine T_aload_nN (pc1 := 13) (pc := 12) k_S_tell_12 rfl rfl ?_) <;> try (refine T_getR (pc1 := 16) (pc := 13) k_S_tell_13 rfl f_S_59 rfl (by first | assumption | exact ga G (by decide) rfl | exact lgA LG (by omega)) (by first | assumption | exact gr G (by decide) rfl | exact lgR LG (by omega)) ?_ <;> try ((first | refine T_aload_n (pc1 := 17) (pc := 16) k_S_tell_16 rfl rfl ?_ | refine T_aload_nN (pc1 := 17) (pc := 16) k_S_tell_16 rfl rfl ?_) <;> try (refine T_getV (pc1 := 20) (pc := 17) k_S_tell_17 rfl f_S_63 rfl (by first | assumption | exact ga G (by decide) rfl | exact lgA LG (by omega)) (by first | assumption | (simp (disch := omega) only [pI_eq, pI_row, pI_col, va_up_self, va_up_ne, ne_eq, not_false_eq_true, h1] <;> rfl) | rfl) ?_ <;> try (refine T_iload_n (pc1 := 21) (pc := 20) k_S_tell_20 rfl rfl ?_ <;> try (refine T_iastN (pc1 := 22) (pc := 21) k_S_tell_21 rfl (by first | assumption | exact ga G (by decide) rfl | exact lgA LG (by omega)) (by omega) (by omega) ?_ <;> try ((first | refine T_aload_n (pc1 := 23) (pc := 22) k_S_tell_22 rfl rfl ?_ | refine T_aload_nN (pc1 := 23) (pc := 22) k_S_tell_22 rfl rfl ?_) <;> try (refine T_dup (pc1 := 24) (pc := 23) k_S_tell_23 rfl rfl ?_ <;> try (refine T_getV (pc1 := 27) (pc := 24) k_S_tell_24 rfl f_S_63 rfl (by first | assumption | exact ga G (by decide) rfl | exact lgA LG (by omega)) (by first | assumption | (simp (disch := omega) only [pI_eq, pI_row, pI_col, va_up_self, va_up_ne, ne_eq, not_false_eq_true, h1] <;> rfl) | rfl) ?_ <;> try (refine T_iconst (v := (nI 1)) (pc1 := 28) (pc := 27) k_S_tell_27 rfl (by decide) ?_ <;> try ((first | with_reducible refine T_iaddN (pc1 := 29) (pc := 28) k_S_tell_28 (by decide) ?_ | refine T_iadd (pc1 := 29) (pc := 28) k_S_tell_28 rfl ?_) <;> try (refine T_putI (pc1 := 32) (pc := 29) k_S_tell_29 rfl f_S_63 rfl (by first | assumption | exact ga G (by decide) rfl | exact lgA LG (by omega)) (by first | rfl | decide | assumption) (by first | rfl | decide | assumption) ?_ <;> try ((first | refine T_aload_n (pc1 := 33) (pc := 32) k_S_tell_32 rfl rfl ?_ | refine T_aload_nN (pc1 := 33) (pc := 32) k_S_tell_32 rfl rfl ?_) <;> try (refine T_getV (pc1 := 36) (pc := 33) k_S_tell_33 rfl f_S_63 rfl (by first | assumption | exact ga G (by decide) rfl | exact lgA LG (by omega)) (by first | assumption | (simp (disch := omega) only [pI_eq, pI_row, pI_col, va_up_self, va_up_ne, ne_eq, not_false_eq_true, h1] <;> rfl) | rfl) ?_))))))))))))))
      | (refine T_retI (pc := 36) k_S_tell_36 rfl (by first | rfl | decide | assumption) ?_)
      | refine T_getV (pc1 := 4) (pc := 1) k_S_tell_1 rfl f_S_63 rfl (by first | assumption | exact ga G (by decide) rfl | exact lgA LG (by omega)) (by first | assumption | (simp (disch := omega) only [pI_eq, pI_row, pI_col, va_up_self, va_up_ne, ne_eq, not_false_eq_true, h1] <;> rfl) | rfl) ?_
      | refine T_bipush (v := (nI 60)) (pc1 := 6) (pc := 4) k_S_tell_4 rfl (by decide) ?_
      | (with_reducible refine T_icmp_ltN (tgt := 12) (pc1 := 9) (pc := 6) k_S_tell_6 (by decide) (by decide) (by omega) (by omega) (fun hc => ?_) (fun hc => ?_) <;> first | (exfalso; omega) | skip)
      | refine T_icmp_lt_t (tgt := 12) (pc := 6) k_S_tell_6 rfl (by decide) ?_
      | refine T_icmp_lt_f (tgt := 12) (pc1 := 9) (pc := 6) k_S_tell_6 rfl rfl (by decide) ?_
      | refine T_icmp_lt (tgt := 12) (pc1 := 9) (pc := 6) k_S_tell_6 rfl rfl (fun hc => ?_) (fun hc => ?_)
      | refine T_retI (pc := 11) k_S_tell_11 rfl (by first | rfl | decide | assumption) ?_
      | refine T_getR (pc1 := 16) (pc := 13) k_S_tell_13 rfl f_S_59 rfl (by first | assumption | exact ga G (by decide) rfl | exact lgA LG (by omega)) (by first | assumption | exact gr G (by decide) rfl | exact lgR LG (by omega)) ?_
      | refine T_aload_n (pc1 := 17) (pc := 16) k_S_tell_16 rfl rfl ?_
      | refine T_aload_nN (pc1 := 17) (pc := 16) k_S_tell_16 rfl rfl ?_
      | refine T_getV (pc1 := 20) (pc := 17) k_S_tell_17 rfl f_S_63 rfl (by first | assumption | exact ga G (by decide) rfl | exact lgA LG (by omega)) (by first | assumption | (simp (disch := omega) only [pI_eq, pI_row, pI_col, va_up_self, va_up_ne, ne_eq, not_false_eq_true, h1] <;> rfl) | rfl) ?_
      | refine T_iload_n (pc1 := 21) (pc := 20) k_S_tell_20 rfl rfl ?_
      | refine T_iastN (pc1 := 22) (pc := 21) k_S_tell_21 rfl (by first | assumption | exact ga G (by decide) rfl | exact lgA LG (by omega)) (by omega) (by omega) ?_
      | refine T_aload_n (pc1 := 23) (pc := 22) k_S_tell_22 rfl rfl ?_
      | refine T_aload_nN (pc1 := 23) (pc := 22) k_S_tell_22 rfl rfl ?_
      | refine T_dup (pc1 := 24) (pc := 23) k_S_tell_23 rfl rfl ?_
      | refine T_getV (pc1 := 27) (pc := 24) k_S_tell_24 rfl f_S_63 rfl (by first | assumption | exact ga G (by decide) rfl | exact lgA LG (by omega)) (by first | assumption | (simp (disch := omega) only [pI_eq, pI_row, pI_col, va_up_self, va_up_ne, ne_eq, not_false_eq_true, h1] <;> rfl) | rfl) ?_
      | refine T_iconst (v := (nI 1)) (pc1 := 28) (pc := 27) k_S_tell_27 rfl (by decide) ?_
      | with_reducible refine T_iaddN (pc1 := 29) (pc := 28) k_S_tell_28 (by decide) ?_
      | refine T_iadd (pc1 := 29) (pc := 28) k_S_tell_28 rfl ?_
      | refine T_putI (pc1 := 32) (pc := 29) k_S_tell_29 rfl f_S_63 rfl (by first | assumption | exact ga G (by decide) rfl | exact lgA LG (by omega)) (by first | rfl | decide | assumption) (by first | rfl | decide | assumption) ?_
      | refine T_aload_n (pc1 := 33) (pc := 32) k_S_tell_32 rfl rfl ?_
      | refine T_aload_nN (pc1 := 33) (pc := 32) k_S_tell_32 rfl rfl ?_
      | refine T_getV (pc1 := 36) (pc := 33) k_S_tell_33 rfl f_S_63 rfl (by first | assumption | exact ga G (by decide) rfl | exact lgA LG (by omega)) (by first | assumption | (simp (disch := omega) only [pI_eq, pI_row, pI_col, va_up_self, va_up_ne, ne_eq, not_false_eq_true, h1] <;> rfl) | rfl) ?_)
    all_goals try (exfalso; omega)
    refine kk _ _ (fr_pI (fr_pI fr_rf (Or.inr rfl)) (Or.inl rfl)) (fun k hk => by rw [pI_col hk, pI_row (by decide)]) ⟨pI_eq, fun k hk => ?_⟩ rfl
    rw [pI_row (by decide)]
    by_cases hkw : k = w
    · subst hkw; rw [pI_eq, va_up_self]
    · rw [pI_col hkw, va_up_ne _ _ hkw]; exact h2 k (by omega)
set_option maxHeartbeats 4000000 in
theorem c_S_check {M Wt : Row} {n tn w : Nat} {kept : Bool} {f t m : Int32} (G : GeoOK g) (hkp : I 0 2 = nI (if kept = true then 1 else 0)) (ok : kept = true → okL M n tn) (okw : kept = true → okW M) (hL : kept = true → LaR g I 21 M n tn) (hW : CW I Wt w) (h60 : w ≤ 60) (kk : ∀ g' J r, GeoOK g' → GS 43 g g' → fre (fun i => i = 0 ∨ tf i) I J → J 0 = va_up (I 0) 10 (nI 0) → r = checkA M n tn kept w Wt f t m → K (some (.int r)) g' J) : Cl 7 M_S_check [.ref 0, .int f, .int t, .int m] g I K := by
  show Rl 7 M_S_check 0 [some (.ref 0), some (.int f), some (.int t), some (.int m), none, none, none, none] [] g I K
  obtain ⟨h1, h2⟩ := id hW
  have e1 : (nI 1).toInt = 1 := rfl
  have e30 : (nI 30).toInt = 30 := rfl
  have x0 : fre (fun i => i = 0 ∨ tf i) I (pI I 0 10 (nI 0)) := fr_pI fr_rf (Or.inl rfl)
  have y0 : pI I 0 10 (nI 0) 0 = va_up (I 0) 10 (nI 0) := pI_self
  by_cases hok : (rg 8 f ∧ rg 8 t) ∧ bt 1 30 m
  · rw [checkA, if_pos hok] at kk
    obtain ⟨a, ha, rfl⟩ := rg_of hok.1.1 (by omega)
    obtain ⟨c, hc8, rfl⟩ := rg_of hok.1.2 (by omega)
    obtain ⟨x, hx1, hx, rfl⟩ := bt_of (lo := 1) (hi := 30) hok.2 (by omega)
    have ex := nI_toInt (n := x) (by omega)
    rw [nI_clamp (by omega), nI_clamp (by omega), nI_clamp (by omega)] at kk
    have c1 := hok.1
    cases kept with
    | false =>
      rw [if_neg (by decide)] at kk
      rw [if_neg (by decide)] at hkp
      have kk := kk g _ _ G GS_rf x0 y0 rfl
      repeat' (first
        | ((first | refine T_aload_n (pc1 := 1) (pc := 0) k_S_check_0 rfl rfl ?_ | refine T_aload_nN (pc1 := 1) (pc := 0) k_S_check_0 rfl rfl ?_) <;> try (refine T_getV (pc1 := 4) (pc := 1) k_S_check_1 rfl f_S_63 rfl (by first | assumption | exact ga G (by decide) rfl | exact lgA LG (by omega)) (by first | assumption | (simp (disch := omega) only [pI_eq, pI_row, pI_col, va_up_self, va_up_ne, ne_eq, not_false_eq_true, hkp] <;> rfl) | rfl) ?_ <;> try (refine T_istore (pc1 := 6) (pc := 4) k_S_check_4 rfl (Nat.le_of_ble_eq_true rfl) ?_ <;> try ((first | refine T_aload_n (pc1 := 7) (pc := 6) k_S_check_6 rfl rfl ?_ | refine T_aload_nN (pc1 := 7) (pc := 6) k_S_check_6 rfl rfl ?_) <;> try (refine T_iconst (v := (nI 0)) (pc1 := 8) (pc := 7) k_S_check_7 rfl (by decide) ?_ <;> try (refine T_putI (pc1 := 11) (pc := 8) k_S_check_8 rfl f_S_63 rfl (by first | assumption | exact ga G (by decide) rfl | exact lgA LG (by omega)) (by first | rfl | decide | assumption) (by first | rfl | decide | assumption) ?_ <;> try (refine T_iload_n (pc1 := 12) (pc := 11) k_S_check_11 rfl rfl ?_ <;> try (refine T_iload_n (pc1 := 13) (pc := 12) k_S_check_12 rfl rfl ?_ <;> try ((refine T_cS (As := [_, _]) (d1 := 3) (pc1 := 16) (pc := 13) k_S_check_13 rfl (by decide) (Nat.le_of_ble_eq_true rfl) rfl o_S_areSpots l_S_73 rfl (c_S_areSpots (fun hw => ?_) (fun hw => ?_)) <;> try dsimp only [psh]) <;> try ((first | (with_reducible refine T_if_eqN (tgt := 29) (pc1 := 19) (pc := 16) k_S_check_16 (by decide) (by decide) (by omega) (fun hc => ?_) (fun hc => ?_) <;> first | (exfalso; omega) | skip) | refine T_if_eq_t (tgt := 29) (pc := 16) k_S_check_16 rfl (by decide) ?_ | refine T_if_eq_f (tgt := 29) (pc1 := 19) (pc := 16) k_S_check_16 rfl rfl (by decide) ?_ | refine T_if_eq (tgt := 29) (pc1 := 19) (pc := 16) k_S_check_16 rfl rfl (fun hc => ?_) (fun hc => ?_))))))))))))
        | (refine T_iload_n (pc1 := 20) (pc := 19) k_S_check_19 rfl rfl ?_ <;> try (refine T_iconst (v := (nI 1)) (pc1 := 21) (pc := 20) k_S_check_20 rfl (by decide) ?_ <;> try (refine T_bipush (v := (nI 30)) (pc1 := 23) (pc := 21) k_S_check_21 rfl (by decide) ?_ <;> try ((refine T_cS (As := [_, _, _]) (d1 := 1) (pc1 := 26) (pc := 23) k_S_check_23 rfl (by decide) (Nat.le_of_ble_eq_true rfl) rfl o_S_isWithin l_S_77 rfl (c_S_isWithin (fun hw => ?_) (fun hw => ?_)) <;> try dsimp only [psh]) <;> try ((first | (with_reducible refine T_if_neN (tgt := 32) (pc1 := 29) (pc := 26) k_S_check_26 (by decide) (by decide) (by omega) (fun hc => ?_) (fun hc => ?_) <;> first | (exfalso; omega) | skip) | refine T_if_ne_t (tgt := 32) (pc := 26) k_S_check_26 rfl (by decide) ?_ | refine T_if_ne_f (tgt := 32) (pc1 := 29) (pc := 26) k_S_check_26 rfl rfl (by decide) ?_ | refine T_if_ne (tgt := 32) (pc1 := 29) (pc := 26) k_S_check_26 rfl rfl (fun hc => ?_) (fun hc => ?_)))))))
        | (refine T_ldc (v := (-1000000001)) (pc1 := 31) (pc := 29) k_S_check_29 rfl c_S_81 ?_ <;> try (refine T_retI (pc := 31) k_S_check_31 rfl (by first | rfl | decide | assumption) ?_))
        | ((first | refine T_aload_n (pc1 := 33) (pc := 32) k_S_check_32 rfl rfl ?_ | refine T_aload_nN (pc1 := 33) (pc := 32) k_S_check_32 rfl rfl ?_) <;> try (refine T_getV (pc1 := 36) (pc := 33) k_S_check_33 rfl f_S_19 rfl (by first | assumption | exact ga G (by decide) rfl | exact lgA LG (by omega)) (by first | assumption | (simp (disch := omega) only [pI_eq, pI_row, pI_col, va_up_self, va_up_ne, ne_eq, not_false_eq_true, hkp] <;> rfl) | rfl) ?_ <;> try ((first | (with_reducible refine T_if_neN (tgt := 43) (pc1 := 39) (pc := 36) k_S_check_36 (by decide) (by decide) (by omega) (fun hc => ?_) (fun hc => ?_) <;> first | (exfalso; omega) | skip) | refine T_if_ne_t (tgt := 43) (pc := 36) k_S_check_36 rfl (by decide) ?_ | refine T_if_ne_f (tgt := 43) (pc1 := 39) (pc := 36) k_S_check_36 rfl rfl (by decide) ?_ | refine T_if_ne (tgt := 43) (pc1 := 39) (pc := 36) k_S_check_36 rfl rfl (fun hc => ?_) (fun hc => ?_)))))
        | (refine T_ldcw (v := (-1000000002)) (pc1 := 42) (pc := 39) k_S_check_39 rfl c_S_343 ?_ <;> try (refine T_retI (pc := 42) k_S_check_42 rfl (by first | rfl | decide | assumption) ?_))
        | refine T_getV (pc1 := 4) (pc := 1) k_S_check_1 rfl f_S_63 rfl (by first | assumption | exact ga G (by decide) rfl | exact lgA LG (by omega)) (by first | assumption | (simp (disch := omega) only [pI_eq, pI_row, pI_col, va_up_self, va_up_ne, ne_eq, not_false_eq_true, hkp] <;> rfl) | rfl) ?_
        | refine T_istore (pc1 := 6) (pc := 4) k_S_check_4 rfl (Nat.le_of_ble_eq_true rfl) ?_
        | refine T_aload_n (pc1 := 7) (pc := 6) k_S_check_6 rfl rfl ?_
        | refine T_aload_nN (pc1 := 7) (pc := 6) k_S_check_6 rfl rfl ?_
        | refine T_iconst (v := (nI 0)) (pc1 := 8) (pc := 7) k_S_check_7 rfl (by decide) ?_
        | refine T_putI (pc1 := 11) (pc := 8) k_S_check_8 rfl f_S_63 rfl (by first | assumption | exact ga G (by decide) rfl | exact lgA LG (by omega)) (by first | rfl | decide | assumption) (by first | rfl | decide | assumption) ?_
        | refine T_iload_n (pc1 := 12) (pc := 11) k_S_check_11 rfl rfl ?_
        | refine T_iload_n (pc1 := 13) (pc := 12) k_S_check_12 rfl rfl ?_
        | (refine T_cS (As := [_, _]) (d1 := 3) (pc1 := 16) (pc := 13) k_S_check_13 rfl (by decide) (Nat.le_of_ble_eq_true rfl) rfl o_S_areSpots l_S_73 rfl (c_S_areSpots (fun hw => ?_) (fun hw => ?_)) <;> try dsimp only [psh])
        | (with_reducible refine T_if_eqN (tgt := 29) (pc1 := 19) (pc := 16) k_S_check_16 (by decide) (by decide) (by omega) (fun hc => ?_) (fun hc => ?_) <;> first | (exfalso; omega) | skip)
        | refine T_if_eq_t (tgt := 29) (pc := 16) k_S_check_16 rfl (by decide) ?_
        | refine T_if_eq_f (tgt := 29) (pc1 := 19) (pc := 16) k_S_check_16 rfl rfl (by decide) ?_
        | refine T_if_eq (tgt := 29) (pc1 := 19) (pc := 16) k_S_check_16 rfl rfl (fun hc => ?_) (fun hc => ?_)
        | refine T_iconst (v := (nI 1)) (pc1 := 21) (pc := 20) k_S_check_20 rfl (by decide) ?_
        | refine T_bipush (v := (nI 30)) (pc1 := 23) (pc := 21) k_S_check_21 rfl (by decide) ?_
        | (refine T_cS (As := [_, _, _]) (d1 := 1) (pc1 := 26) (pc := 23) k_S_check_23 rfl (by decide) (Nat.le_of_ble_eq_true rfl) rfl o_S_isWithin l_S_77 rfl (c_S_isWithin (fun hw => ?_) (fun hw => ?_)) <;> try dsimp only [psh])
        | (with_reducible refine T_if_neN (tgt := 32) (pc1 := 29) (pc := 26) k_S_check_26 (by decide) (by decide) (by omega) (fun hc => ?_) (fun hc => ?_) <;> first | (exfalso; omega) | skip)
        | refine T_if_ne_t (tgt := 32) (pc := 26) k_S_check_26 rfl (by decide) ?_
        | refine T_if_ne_f (tgt := 32) (pc1 := 29) (pc := 26) k_S_check_26 rfl rfl (by decide) ?_
        | refine T_if_ne (tgt := 32) (pc1 := 29) (pc := 26) k_S_check_26 rfl rfl (fun hc => ?_) (fun hc => ?_)
        | refine T_retI (pc := 31) k_S_check_31 rfl (by first | rfl | decide | assumption) ?_
        | refine T_getV (pc1 := 36) (pc := 33) k_S_check_33 rfl f_S_19 rfl (by first | assumption | exact ga G (by decide) rfl | exact lgA LG (by omega)) (by first | assumption | (simp (disch := omega) only [pI_eq, pI_row, pI_col, va_up_self, va_up_ne, ne_eq, not_false_eq_true, hkp] <;> rfl) | rfl) ?_
        | (with_reducible refine T_if_neN (tgt := 43) (pc1 := 39) (pc := 36) k_S_check_36 (by decide) (by decide) (by omega) (fun hc => ?_) (fun hc => ?_) <;> first | (exfalso; omega) | skip)
        | refine T_if_ne_t (tgt := 43) (pc := 36) k_S_check_36 rfl (by decide) ?_
        | refine T_if_ne_f (tgt := 43) (pc1 := 39) (pc := 36) k_S_check_36 rfl rfl (by decide) ?_
        | refine T_if_ne (tgt := 43) (pc1 := 39) (pc := 36) k_S_check_36 rfl rfl (fun hc => ?_) (fun hc => ?_)
        | refine T_retI (pc := 42) k_S_check_42 rfl (by first | rfl | decide | assumption) ?_)
      all_goals first | exact kk | (exfalso; exact hw c1) | (exfalso; apply hw; constructor <;> omega)
    | true =>
      rw [if_pos rfl] at kk hkp
      have ok := ok rfl
      have okw := okw rfl
      have h14 := ok.2.1
      have hL2 : LaR g (pI I 0 10 (nI 0)) 21 M n tn := LR_fr (hL rfl) h14 (r := 43) GS_rf (by decide) (by decide) (fr_pI (P := fun i => i = 0) fr_rf rfl) (fun i hi q => by unfold lnd at hi; omega) (fun i hi => Or.inl (by omega))
      have loop : ∀ q k o7 (g' : Geo) (R : Row) (J : IM), k + q = x → GeoOK g' → GS 43 g g' → okL R n tn → fre (fun i => i = 0 ∨ tf i) I J → J 0 = va_up (I 0) 10 (nI 0) → LaR g' J 41 R n tn → ckF n tn a c w Wt q k R = ckF n tn a c w Wt x 0 M → Rl 7 M_S_check 60 [some (.ref 0), some (.int (nI a)), some (.int (nI c)), some (.int (nI x)), some (.int (nI w)), some (.int (nI (2 * k))), some (.int (nI k)), o7] [] g' J K := by
        intro q
        induction q with
        | zero =>
          intro k o7 g' R J hk G hg okR hJ h0 hJL hck
          have hk : k = x := by omega
          subst hk
          have kk := kk g' J _ G hg hJ h0 rfl
          rw [← hck] at kk
          unfold ckV ckF at kk
          repeat' (first
            | (refine T_iload (pc1 := 62) (pc := 60) k_S_check_60 rfl rfl ?_ <;> try (refine T_iload_n (pc1 := 63) (pc := 62) k_S_check_62 rfl rfl ?_ <;> try ((first | (with_reducible refine T_icmp_geN (tgt := 146) (pc1 := 66) (pc := 63) k_S_check_63 (by decide) (by decide) (by omega) (by omega) (fun hc => ?_) (fun hc => ?_) <;> first | (exfalso; omega) | skip) | refine T_icmp_ge_t (tgt := 146) (pc := 63) k_S_check_63 rfl (by decide) ?_ | refine T_icmp_ge_f (tgt := 146) (pc1 := 66) (pc := 63) k_S_check_63 rfl rfl (by decide) ?_ | refine T_icmp_ge (tgt := 146) (pc1 := 66) (pc := 63) k_S_check_63 rfl rfl (fun hc => ?_) (fun hc => ?_)))))
            | (refine T_iload (pc1 := 148) (pc := 146) k_S_check_146 rfl rfl ?_ <;> try (refine T_iload (pc1 := 150) (pc := 148) k_S_check_148 rfl rfl ?_ <;> try ((first | (with_reducible refine T_icmp_neN (tgt := 157) (pc1 := 153) (pc := 150) k_S_check_150 (by decide) (by decide) (by omega) (by omega) (fun hc => ?_) (fun hc => ?_) <;> first | (exfalso; omega) | skip) | refine T_icmp_ne_t (tgt := 157) (pc := 150) k_S_check_150 rfl (by decide) ?_ | refine T_icmp_ne_f (tgt := 157) (pc1 := 153) (pc := 150) k_S_check_150 rfl rfl (by decide) ?_ | refine T_icmp_ne (tgt := 157) (pc1 := 153) (pc := 150) k_S_check_150 rfl rfl (fun hc => ?_) (fun hc => ?_)))))
            | (refine T_iconst (v := (nI 0)) (pc1 := 154) (pc := 153) k_S_check_153 rfl (by decide) ?_ <;> try (refine T_goto (tgt := 161) (pc := 154) k_S_check_154 rfl ?_))
            | (refine T_iconst (v := (nI 1)) (pc1 := 158) (pc := 157) k_S_check_157 rfl (by decide) ?_ <;> try (refine T_iload (pc1 := 160) (pc := 158) k_S_check_158 rfl rfl ?_ <;> try ((first | with_reducible refine T_iaddN (pc1 := 161) (pc := 160) k_S_check_160 (by decide) ?_ | refine T_iadd (pc1 := 161) (pc := 160) k_S_check_160 rfl ?_))))
            | (refine T_retI (pc := 161) k_S_check_161 rfl (by first | rfl | decide | assumption) ?_)
            | refine T_iload_n (pc1 := 63) (pc := 62) k_S_check_62 rfl rfl ?_
            | (with_reducible refine T_icmp_geN (tgt := 146) (pc1 := 66) (pc := 63) k_S_check_63 (by decide) (by decide) (by omega) (by omega) (fun hc => ?_) (fun hc => ?_) <;> first | (exfalso; omega) | skip)
            | refine T_icmp_ge_t (tgt := 146) (pc := 63) k_S_check_63 rfl (by decide) ?_
            | refine T_icmp_ge_f (tgt := 146) (pc1 := 66) (pc := 63) k_S_check_63 rfl rfl (by decide) ?_
            | refine T_icmp_ge (tgt := 146) (pc1 := 66) (pc := 63) k_S_check_63 rfl rfl (fun hc => ?_) (fun hc => ?_)
            | refine T_iload (pc1 := 150) (pc := 148) k_S_check_148 rfl rfl ?_
            | (with_reducible refine T_icmp_neN (tgt := 157) (pc1 := 153) (pc := 150) k_S_check_150 (by decide) (by decide) (by omega) (by omega) (fun hc => ?_) (fun hc => ?_) <;> first | (exfalso; omega) | skip)
            | refine T_icmp_ne_t (tgt := 157) (pc := 150) k_S_check_150 rfl (by decide) ?_
            | refine T_icmp_ne_f (tgt := 157) (pc1 := 153) (pc := 150) k_S_check_150 rfl rfl (by decide) ?_
            | refine T_icmp_ne (tgt := 157) (pc1 := 153) (pc := 150) k_S_check_150 rfl rfl (fun hc => ?_) (fun hc => ?_)
            | refine T_goto (tgt := 161) (pc := 154) k_S_check_154 rfl ?_
            | refine T_iload (pc1 := 160) (pc := 158) k_S_check_158 rfl rfl ?_
            | with_reducible refine T_iaddN (pc1 := 161) (pc := 160) k_S_check_160 (by decide) ?_
            | refine T_iadd (pc1 := 161) (pc := 160) k_S_check_160 rfl ?_)
          all_goals first | (rw [if_neg (by omega)] at kk; exact kk) | (rw [if_pos ⟨by omega, by omega⟩] at kk; exact kk)
        | succ q ih =>
          intro k o7 g' R J hk G hg okR hJ h0 hJL hck
          obtain ⟨ok3, ok4, ok5⟩ := wkN_ok (fr := a) (to0 := c) okR ha hc8
          rw [ckF] at hck
          have LG := land_41 G
          refine T_iload (pc1 := 62) (pc := 60) k_S_check_60 rfl rfl ?_
          repeat' (first
            | (refine T_iload_n (pc1 := 63) (pc := 62) k_S_check_62 rfl rfl ?_ <;> try ((first | (with_reducible refine T_icmp_geN (tgt := 146) (pc1 := 66) (pc := 63) k_S_check_63 (by decide) (by decide) (by omega) (by omega) (fun hc => ?_) (fun hc => ?_) <;> first | (exfalso; omega) | skip) | refine T_icmp_ge_t (tgt := 146) (pc := 63) k_S_check_63 rfl (by decide) ?_ | refine T_icmp_ge_f (tgt := 146) (pc1 := 66) (pc := 63) k_S_check_63 rfl rfl (by decide) ?_ | refine T_icmp_ge (tgt := 146) (pc1 := 66) (pc := 63) k_S_check_63 rfl rfl (fun hc => ?_) (fun hc => ?_))))
            | ((first | refine T_aload_n (pc1 := 67) (pc := 66) k_S_check_66 rfl rfl ?_ | refine T_aload_nN (pc1 := 67) (pc := 66) k_S_check_66 rfl rfl ?_) <;> try (refine T_getR (pc1 := 70) (pc := 67) k_S_check_67 rfl f_S_36 rfl (by first | assumption | exact ga G (by decide) rfl | exact lgA LG (by omega)) (by first | assumption | exact gr G (by decide) rfl | exact lgR LG (by omega)) ?_ <;> try ((first | refine T_aload_n (pc1 := 71) (pc := 70) k_S_check_70 rfl rfl ?_ | refine T_aload_nN (pc1 := 71) (pc := 70) k_S_check_70 rfl rfl ?_) <;> try (refine T_getR (pc1 := 74) (pc := 71) k_S_check_71 rfl f_S_23 rfl (by first | assumption | exact ga G (by decide) rfl | exact lgA LG (by omega)) (by first | assumption | exact gr G (by decide) rfl | exact lgR LG (by omega)) ?_ <;> try (refine T_iload_n (pc1 := 75) (pc := 74) k_S_check_74 rfl rfl ?_ <;> try (refine T_iload_n (pc1 := 76) (pc := 75) k_S_check_75 rfl rfl ?_ <;> try ((refine T_cV (As := [_, _, _]) (d1 := 6) (pc1 := 79) (pc := 76) k_S_check_76 rfl (by decide) (Nat.le_of_ble_eq_true rfl) rfl o_Wr_go l_S_164 rfl (by first | assumption | exact ga G (by decide) rfl | exact lgA LG (by omega)) rfl (c_Wr_go G LG okR hJL ha hc8 (fun J2 hJ2 hJ2L => ?_)) <;> try dsimp only [psh]) <;> try (refine T_istore (pc1 := 81) (pc := 79) k_S_check_79 rfl (Nat.le_of_ble_eq_true rfl) ?_))))))))
            | (with_reducible refine T_icmp_geN (tgt := 146) (pc1 := 66) (pc := 63) k_S_check_63 (by decide) (by decide) (by omega) (by omega) (fun hc => ?_) (fun hc => ?_) <;> first | (exfalso; omega) | skip)
            | refine T_icmp_ge_t (tgt := 146) (pc := 63) k_S_check_63 rfl (by decide) ?_
            | refine T_icmp_ge_f (tgt := 146) (pc1 := 66) (pc := 63) k_S_check_63 rfl rfl (by decide) ?_
            | refine T_icmp_ge (tgt := 146) (pc1 := 66) (pc := 63) k_S_check_63 rfl rfl (fun hc => ?_) (fun hc => ?_)
            | refine T_getR (pc1 := 70) (pc := 67) k_S_check_67 rfl f_S_36 rfl (by first | assumption | exact ga G (by decide) rfl | exact lgA LG (by omega)) (by first | assumption | exact gr G (by decide) rfl | exact lgR LG (by omega)) ?_
            | refine T_aload_n (pc1 := 71) (pc := 70) k_S_check_70 rfl rfl ?_
            | refine T_aload_nN (pc1 := 71) (pc := 70) k_S_check_70 rfl rfl ?_
            | refine T_getR (pc1 := 74) (pc := 71) k_S_check_71 rfl f_S_23 rfl (by first | assumption | exact ga G (by decide) rfl | exact lgA LG (by omega)) (by first | assumption | exact gr G (by decide) rfl | exact lgR LG (by omega)) ?_
            | refine T_iload_n (pc1 := 75) (pc := 74) k_S_check_74 rfl rfl ?_
            | refine T_iload_n (pc1 := 76) (pc := 75) k_S_check_75 rfl rfl ?_
            | (refine T_cV (As := [_, _, _]) (d1 := 6) (pc1 := 79) (pc := 76) k_S_check_76 rfl (by decide) (Nat.le_of_ble_eq_true rfl) rfl o_Wr_go l_S_164 rfl (by first | assumption | exact ga G (by decide) rfl | exact lgA LG (by omega)) rfl (c_Wr_go G LG okR hJL ha hc8 (fun J2 hJ2 hJ2L => ?_)) <;> try dsimp only [psh])
            | refine T_istore (pc1 := 81) (pc := 79) k_S_check_79 rfl (Nat.le_of_ble_eq_true rfl) ?_)
          all_goals try (exfalso; omega)
          have e72 : ∀ i, i < w → J2 72 i = Wt i := fun i hi => by
            rw [hJ2 72 (fun q => by unfold wf1 lnd stk at q; omega), hJ 72 (fun q => by unfold tf wf1 lnd stk at q; omega)]
            exact h2 i hi
          have j0 : J2 0 = va_up (I 0) 10 (nI 0) := (hJ2 0 (fun q => by unfold wf1 lnd stk at q; omega)).trans h0
          have frJ : fre (fun i => i = 0 ∨ tf i) I J2 := fr_tr hJ (fr_mono hJ2 (fun i hi => Or.inr (Or.inl hi)))
          have done : ∀ r, r ≤ 100 → ¬ r = 2 * x → r = ckF n tn a c w Wt x 0 M → K (some (.int (nI (1 + r)))) g' J2 := fun r hr hne hrr => by
            have kk := kk g' J2 _ G hg frJ j0 rfl
            rw [← hrr, ckV, if_neg (fun q => hne q.1)] at kk
            exact kk
          by_cases p1 : 2 * k < w
          · have v1 := e72 (2 * k) p1
            by_cases p2 : 2 * k + 1 < w
            · have v2 := e72 (2 * k + 1) p2
              repeat' (first
                | (refine T_iload (pc1 := 83) (pc := 81) k_S_check_81 rfl rfl ?_ <;> try (refine T_iload (pc1 := 85) (pc := 83) k_S_check_83 rfl rfl ?_ <;> try ((first | (with_reducible refine T_icmp_geN (tgt := 100) (pc1 := 88) (pc := 85) k_S_check_85 (by decide) (by decide) (by omega) (by omega) (fun hc => ?_) (fun hc => ?_) <;> first | (exfalso; omega) | skip) | refine T_icmp_ge_t (tgt := 100) (pc := 85) k_S_check_85 rfl (by decide) ?_ | refine T_icmp_ge_f (tgt := 100) (pc1 := 88) (pc := 85) k_S_check_85 rfl rfl (by decide) ?_ | refine T_icmp_ge (tgt := 100) (pc1 := 88) (pc := 85) k_S_check_85 rfl rfl (fun hc => ?_) (fun hc => ?_)))))
                | ((first | refine T_aload_n (pc1 := 89) (pc := 88) k_S_check_88 rfl rfl ?_ | refine T_aload_nN (pc1 := 89) (pc := 88) k_S_check_88 rfl rfl ?_) <;> try (refine T_getR (pc1 := 92) (pc := 89) k_S_check_89 rfl f_S_59 rfl (by first | assumption | exact ga G (by decide) rfl | exact lgA LG (by omega)) (by first | assumption | exact gr G (by decide) rfl | exact lgR LG (by omega)) ?_ <;> try (refine T_iload (pc1 := 94) (pc := 92) k_S_check_92 rfl rfl ?_ <;> try ((first | refine T_ialdN (pc1 := 95) (pc := 94) k_S_check_94 rfl (by first | assumption | exact ga G (by decide) rfl | exact lgA LG (by omega)) (by omega) (by omega) (by first | assumption | (simp (disch := omega) only [pI_eq, pI_row, pI_col, va_up_self, va_up_ne, ne_eq, not_false_eq_true, hkp] <;> rfl) | rfl) ?_ | refine T_iald (pc1 := 95) (pc := 94) k_S_check_94 rfl (by first | assumption | exact ga G (by decide) rfl | exact lgA LG (by omega)) (by assumption) ?_) <;> try (refine T_iload (pc1 := 97) (pc := 95) k_S_check_95 rfl rfl ?_ <;> try (refine T_icmp_eq (tgt := 105) (pc1 := 100) (pc := 97) k_S_check_97 rfl rfl (fun hcE => ?_) (fun hcE => ?_)))))))
                | (refine T_iconst (v := (nI 1)) (pc1 := 101) (pc := 100) k_S_check_100 rfl (by decide) ?_ <;> try (refine T_iload (pc1 := 103) (pc := 101) k_S_check_101 rfl rfl ?_ <;> try ((first | with_reducible refine T_iaddN (pc1 := 104) (pc := 103) k_S_check_103 (by decide) ?_ | refine T_iadd (pc1 := 104) (pc := 103) k_S_check_103 rfl ?_) <;> try (refine T_retI (pc := 104) k_S_check_104 rfl (by first | rfl | decide | assumption) ?_))))
                | ((first | refine T_iincN (b := 1) (pc1 := 108) (pc := 105) k_S_check_105 rfl rfl (by decide) ?_ | refine T_iinc (v := (nI 1)) (pc1 := 108) (pc := 105) k_S_check_105 rfl rfl (by decide) ?_) <;> try (refine T_iload (pc1 := 110) (pc := 108) k_S_check_108 rfl rfl ?_ <;> try (refine T_iload (pc1 := 112) (pc := 110) k_S_check_110 rfl rfl ?_ <;> try ((first | (with_reducible refine T_icmp_geN (tgt := 132) (pc1 := 115) (pc := 112) k_S_check_112 (by decide) (by decide) (by omega) (by omega) (fun hc => ?_) (fun hc => ?_) <;> first | (exfalso; omega) | skip) | refine T_icmp_ge_t (tgt := 132) (pc := 112) k_S_check_112 rfl (by decide) ?_ | refine T_icmp_ge_f (tgt := 132) (pc1 := 115) (pc := 112) k_S_check_112 rfl rfl (by decide) ?_ | refine T_icmp_ge (tgt := 132) (pc1 := 115) (pc := 112) k_S_check_112 rfl rfl (fun hc => ?_) (fun hc => ?_))))))
                | ((first | refine T_aload_n (pc1 := 116) (pc := 115) k_S_check_115 rfl rfl ?_ | refine T_aload_nN (pc1 := 116) (pc := 115) k_S_check_115 rfl rfl ?_) <;> try (refine T_getR (pc1 := 119) (pc := 116) k_S_check_116 rfl f_S_59 rfl (by first | assumption | exact ga G (by decide) rfl | exact lgA LG (by omega)) (by first | assumption | exact gr G (by decide) rfl | exact lgR LG (by omega)) ?_ <;> try (refine T_iload (pc1 := 121) (pc := 119) k_S_check_119 rfl rfl ?_ <;> try ((first | refine T_ialdN (pc1 := 122) (pc := 121) k_S_check_121 rfl (by first | assumption | exact ga G (by decide) rfl | exact lgA LG (by omega)) (by omega) (by omega) (by first | assumption | (simp (disch := omega) only [pI_eq, pI_row, pI_col, va_up_self, va_up_ne, ne_eq, not_false_eq_true, hkp] <;> rfl) | rfl) ?_ | refine T_iald (pc1 := 122) (pc := 121) k_S_check_121 rfl (by first | assumption | exact ga G (by decide) rfl | exact lgA LG (by omega)) (by assumption) ?_) <;> try ((first | refine T_aload_n (pc1 := 123) (pc := 122) k_S_check_122 rfl rfl ?_ | refine T_aload_nN (pc1 := 123) (pc := 122) k_S_check_122 rfl rfl ?_) <;> try (refine T_getR (pc1 := 126) (pc := 123) k_S_check_123 rfl f_S_23 rfl (by first | assumption | exact ga G (by decide) rfl | exact lgA LG (by omega)) (by first | assumption | exact gr G (by decide) rfl | exact lgR LG (by omega)) ?_ <;> try ((refine T_cV (As := []) (d1 := 1) (pc1 := 129) (pc := 126) k_S_check_126 rfl (by decide) (Nat.le_of_ble_eq_true rfl) rfl o_La_troddenInAll l_S_344 rfl (by first | assumption | exact ga G (by decide) rfl | exact lgA LG (by omega)) rfl (c_La_troddenInAll LG ok3 hJ2L.2.1 ?_) <;> try dsimp only [psh]) <;> try (refine T_icmp_eq (tgt := 137) (pc1 := 132) (pc := 129) k_S_check_129 rfl rfl (fun hcF => ?_) (fun hcF => ?_)))))))))
                | (refine T_iconst (v := (nI 1)) (pc1 := 133) (pc := 132) k_S_check_132 rfl (by decide) ?_ <;> try (refine T_iload (pc1 := 135) (pc := 133) k_S_check_133 rfl rfl ?_ <;> try ((first | with_reducible refine T_iaddN (pc1 := 136) (pc := 135) k_S_check_135 (by decide) ?_ | refine T_iadd (pc1 := 136) (pc := 135) k_S_check_135 rfl ?_) <;> try (refine T_retI (pc := 136) k_S_check_136 rfl (by first | rfl | decide | assumption) ?_))))
                | ((first | refine T_iincN (b := 1) (pc1 := 140) (pc := 137) k_S_check_137 rfl rfl (by decide) ?_ | refine T_iinc (v := (nI 1)) (pc1 := 140) (pc := 137) k_S_check_137 rfl rfl (by decide) ?_) <;> try ((first | refine T_iincN (b := 1) (pc1 := 143) (pc := 140) k_S_check_140 rfl rfl (by decide) ?_ | refine T_iinc (v := (nI 1)) (pc1 := 143) (pc := 140) k_S_check_140 rfl rfl (by decide) ?_) <;> try (refine T_goto (tgt := 60) (pc := 143) k_S_check_143 rfl ?_)))
                | refine T_iload (pc1 := 85) (pc := 83) k_S_check_83 rfl rfl ?_
                | (with_reducible refine T_icmp_geN (tgt := 100) (pc1 := 88) (pc := 85) k_S_check_85 (by decide) (by decide) (by omega) (by omega) (fun hc => ?_) (fun hc => ?_) <;> first | (exfalso; omega) | skip)
                | refine T_icmp_ge_t (tgt := 100) (pc := 85) k_S_check_85 rfl (by decide) ?_
                | refine T_icmp_ge_f (tgt := 100) (pc1 := 88) (pc := 85) k_S_check_85 rfl rfl (by decide) ?_
                | refine T_icmp_ge (tgt := 100) (pc1 := 88) (pc := 85) k_S_check_85 rfl rfl (fun hc => ?_) (fun hc => ?_)
                | refine T_getR (pc1 := 92) (pc := 89) k_S_check_89 rfl f_S_59 rfl (by first | assumption | exact ga G (by decide) rfl | exact lgA LG (by omega)) (by first | assumption | exact gr G (by decide) rfl | exact lgR LG (by omega)) ?_
                | refine T_iload (pc1 := 94) (pc := 92) k_S_check_92 rfl rfl ?_
                | refine T_ialdN (pc1 := 95) (pc := 94) k_S_check_94 rfl (by first | assumption | exact ga G (by decide) rfl | exact lgA LG (by omega)) (by omega) (by omega) (by first | assumption | (simp (disch := omega) only [pI_eq, pI_row, pI_col, va_up_self, va_up_ne, ne_eq, not_false_eq_true, hkp] <;> rfl) | rfl) ?_
                | refine T_iald (pc1 := 95) (pc := 94) k_S_check_94 rfl (by first | assumption | exact ga G (by decide) rfl | exact lgA LG (by omega)) (by assumption) ?_
                | refine T_iload (pc1 := 97) (pc := 95) k_S_check_95 rfl rfl ?_
                | refine T_icmp_eq (tgt := 105) (pc1 := 100) (pc := 97) k_S_check_97 rfl rfl (fun hcE => ?_) (fun hcE => ?_)
                | refine T_iload (pc1 := 103) (pc := 101) k_S_check_101 rfl rfl ?_
                | with_reducible refine T_iaddN (pc1 := 104) (pc := 103) k_S_check_103 (by decide) ?_
                | refine T_iadd (pc1 := 104) (pc := 103) k_S_check_103 rfl ?_
                | refine T_retI (pc := 104) k_S_check_104 rfl (by first | rfl | decide | assumption) ?_
                | refine T_iload (pc1 := 110) (pc := 108) k_S_check_108 rfl rfl ?_
                | refine T_iload (pc1 := 112) (pc := 110) k_S_check_110 rfl rfl ?_
                | (with_reducible refine T_icmp_geN (tgt := 132) (pc1 := 115) (pc := 112) k_S_check_112 (by decide) (by decide) (by omega) (by omega) (fun hc => ?_) (fun hc => ?_) <;> first | (exfalso; omega) | skip)
                | refine T_icmp_ge_t (tgt := 132) (pc := 112) k_S_check_112 rfl (by decide) ?_
                | refine T_icmp_ge_f (tgt := 132) (pc1 := 115) (pc := 112) k_S_check_112 rfl rfl (by decide) ?_
                | refine T_icmp_ge (tgt := 132) (pc1 := 115) (pc := 112) k_S_check_112 rfl rfl (fun hc => ?_) (fun hc => ?_)
                | refine T_getR (pc1 := 119) (pc := 116) k_S_check_116 rfl f_S_59 rfl (by first | assumption | exact ga G (by decide) rfl | exact lgA LG (by omega)) (by first | assumption | exact gr G (by decide) rfl | exact lgR LG (by omega)) ?_
                | refine T_iload (pc1 := 121) (pc := 119) k_S_check_119 rfl rfl ?_
                | refine T_ialdN (pc1 := 122) (pc := 121) k_S_check_121 rfl (by first | assumption | exact ga G (by decide) rfl | exact lgA LG (by omega)) (by omega) (by omega) (by first | assumption | (simp (disch := omega) only [pI_eq, pI_row, pI_col, va_up_self, va_up_ne, ne_eq, not_false_eq_true, hkp] <;> rfl) | rfl) ?_
                | refine T_iald (pc1 := 122) (pc := 121) k_S_check_121 rfl (by first | assumption | exact ga G (by decide) rfl | exact lgA LG (by omega)) (by assumption) ?_
                | refine T_aload_n (pc1 := 123) (pc := 122) k_S_check_122 rfl rfl ?_
                | refine T_aload_nN (pc1 := 123) (pc := 122) k_S_check_122 rfl rfl ?_
                | refine T_getR (pc1 := 126) (pc := 123) k_S_check_123 rfl f_S_23 rfl (by first | assumption | exact ga G (by decide) rfl | exact lgA LG (by omega)) (by first | assumption | exact gr G (by decide) rfl | exact lgR LG (by omega)) ?_
                | (refine T_cV (As := []) (d1 := 1) (pc1 := 129) (pc := 126) k_S_check_126 rfl (by decide) (Nat.le_of_ble_eq_true rfl) rfl o_La_troddenInAll l_S_344 rfl (by first | assumption | exact ga G (by decide) rfl | exact lgA LG (by omega)) rfl (c_La_troddenInAll LG ok3 hJ2L.2.1 ?_) <;> try dsimp only [psh])
                | refine T_icmp_eq (tgt := 137) (pc1 := 132) (pc := 129) k_S_check_129 rfl rfl (fun hcF => ?_) (fun hcF => ?_)
                | refine T_iload (pc1 := 135) (pc := 133) k_S_check_133 rfl rfl ?_
                | with_reducible refine T_iaddN (pc1 := 136) (pc := 135) k_S_check_135 (by decide) ?_
                | refine T_iadd (pc1 := 136) (pc := 135) k_S_check_135 rfl ?_
                | refine T_retI (pc := 136) k_S_check_136 rfl (by first | rfl | decide | assumption) ?_
                | refine T_iincN (b := 1) (pc1 := 143) (pc := 140) k_S_check_140 rfl rfl (by decide) ?_
                | refine T_iinc (v := (nI 1)) (pc1 := 143) (pc := 140) k_S_check_140 rfl rfl (by decide) ?_
                | refine T_goto (tgt := 60) (pc := 143) k_S_check_143 rfl ?_)
              all_goals try (exfalso; omega)
              · rw [if_pos ⟨p1, hcE⟩, if_pos ⟨p2, hcF⟩] at hck
                exact ih (k + 1) _ g' _ J2 (by omega) G hg ok3 frJ j0 hJ2L hck
              · rw [if_pos ⟨p1, hcE⟩, if_neg (fun q => hcF q.2)] at hck
                exact done _ (by omega) (by omega) hck
              · rw [if_neg (fun q => hcE q.2)] at hck
                exact done _ (by omega) (by omega) hck
            · repeat' (first
                | (refine T_iload (pc1 := 83) (pc := 81) k_S_check_81 rfl rfl ?_ <;> try (refine T_iload (pc1 := 85) (pc := 83) k_S_check_83 rfl rfl ?_ <;> try ((first | (with_reducible refine T_icmp_geN (tgt := 100) (pc1 := 88) (pc := 85) k_S_check_85 (by decide) (by decide) (by omega) (by omega) (fun hc => ?_) (fun hc => ?_) <;> first | (exfalso; omega) | skip) | refine T_icmp_ge_t (tgt := 100) (pc := 85) k_S_check_85 rfl (by decide) ?_ | refine T_icmp_ge_f (tgt := 100) (pc1 := 88) (pc := 85) k_S_check_85 rfl rfl (by decide) ?_ | refine T_icmp_ge (tgt := 100) (pc1 := 88) (pc := 85) k_S_check_85 rfl rfl (fun hc => ?_) (fun hc => ?_)))))
                | ((first | refine T_aload_n (pc1 := 89) (pc := 88) k_S_check_88 rfl rfl ?_ | refine T_aload_nN (pc1 := 89) (pc := 88) k_S_check_88 rfl rfl ?_) <;> try (refine T_getR (pc1 := 92) (pc := 89) k_S_check_89 rfl f_S_59 rfl (by first | assumption | exact ga G (by decide) rfl | exact lgA LG (by omega)) (by first | assumption | exact gr G (by decide) rfl | exact lgR LG (by omega)) ?_ <;> try (refine T_iload (pc1 := 94) (pc := 92) k_S_check_92 rfl rfl ?_ <;> try ((first | refine T_ialdN (pc1 := 95) (pc := 94) k_S_check_94 rfl (by first | assumption | exact ga G (by decide) rfl | exact lgA LG (by omega)) (by omega) (by omega) (by first | assumption | (simp (disch := omega) only [pI_eq, pI_row, pI_col, va_up_self, va_up_ne, ne_eq, not_false_eq_true, hkp] <;> rfl) | rfl) ?_ | refine T_iald (pc1 := 95) (pc := 94) k_S_check_94 rfl (by first | assumption | exact ga G (by decide) rfl | exact lgA LG (by omega)) (by assumption) ?_) <;> try (refine T_iload (pc1 := 97) (pc := 95) k_S_check_95 rfl rfl ?_ <;> try (refine T_icmp_eq (tgt := 105) (pc1 := 100) (pc := 97) k_S_check_97 rfl rfl (fun hcE => ?_) (fun hcE => ?_)))))))
                | (refine T_iconst (v := (nI 1)) (pc1 := 101) (pc := 100) k_S_check_100 rfl (by decide) ?_ <;> try (refine T_iload (pc1 := 103) (pc := 101) k_S_check_101 rfl rfl ?_ <;> try ((first | with_reducible refine T_iaddN (pc1 := 104) (pc := 103) k_S_check_103 (by decide) ?_ | refine T_iadd (pc1 := 104) (pc := 103) k_S_check_103 rfl ?_) <;> try (refine T_retI (pc := 104) k_S_check_104 rfl (by first | rfl | decide | assumption) ?_))))
                | ((first | refine T_iincN (b := 1) (pc1 := 108) (pc := 105) k_S_check_105 rfl rfl (by decide) ?_ | refine T_iinc (v := (nI 1)) (pc1 := 108) (pc := 105) k_S_check_105 rfl rfl (by decide) ?_) <;> try (refine T_iload (pc1 := 110) (pc := 108) k_S_check_108 rfl rfl ?_ <;> try (refine T_iload (pc1 := 112) (pc := 110) k_S_check_110 rfl rfl ?_ <;> try ((first | (with_reducible refine T_icmp_geN (tgt := 132) (pc1 := 115) (pc := 112) k_S_check_112 (by decide) (by decide) (by omega) (by omega) (fun hc => ?_) (fun hc => ?_) <;> first | (exfalso; omega) | skip) | refine T_icmp_ge_t (tgt := 132) (pc := 112) k_S_check_112 rfl (by decide) ?_ | refine T_icmp_ge_f (tgt := 132) (pc1 := 115) (pc := 112) k_S_check_112 rfl rfl (by decide) ?_ | refine T_icmp_ge (tgt := 132) (pc1 := 115) (pc := 112) k_S_check_112 rfl rfl (fun hc => ?_) (fun hc => ?_))))))
                | ((first | refine T_aload_n (pc1 := 116) (pc := 115) k_S_check_115 rfl rfl ?_ | refine T_aload_nN (pc1 := 116) (pc := 115) k_S_check_115 rfl rfl ?_) <;> try (refine T_getR (pc1 := 119) (pc := 116) k_S_check_116 rfl f_S_59 rfl (by first | assumption | exact ga G (by decide) rfl | exact lgA LG (by omega)) (by first | assumption | exact gr G (by decide) rfl | exact lgR LG (by omega)) ?_ <;> try (refine T_iload (pc1 := 121) (pc := 119) k_S_check_119 rfl rfl ?_ <;> try ((first | refine T_ialdN (pc1 := 122) (pc := 121) k_S_check_121 rfl (by first | assumption | exact ga G (by decide) rfl | exact lgA LG (by omega)) (by omega) (by omega) (by first | assumption | (simp (disch := omega) only [pI_eq, pI_row, pI_col, va_up_self, va_up_ne, ne_eq, not_false_eq_true, hkp] <;> rfl) | rfl) ?_ | refine T_iald (pc1 := 122) (pc := 121) k_S_check_121 rfl (by first | assumption | exact ga G (by decide) rfl | exact lgA LG (by omega)) (by assumption) ?_) <;> try ((first | refine T_aload_n (pc1 := 123) (pc := 122) k_S_check_122 rfl rfl ?_ | refine T_aload_nN (pc1 := 123) (pc := 122) k_S_check_122 rfl rfl ?_) <;> try (refine T_getR (pc1 := 126) (pc := 123) k_S_check_123 rfl f_S_23 rfl (by first | assumption | exact ga G (by decide) rfl | exact lgA LG (by omega)) (by first | assumption | exact gr G (by decide) rfl | exact lgR LG (by omega)) ?_ <;> try ((refine T_cV (As := []) (d1 := 1) (pc1 := 129) (pc := 126) k_S_check_126 rfl (by decide) (Nat.le_of_ble_eq_true rfl) rfl o_La_troddenInAll l_S_344 rfl (by first | assumption | exact ga G (by decide) rfl | exact lgA LG (by omega)) rfl (c_La_troddenInAll LG ok3 hJ2L.2.1 ?_) <;> try dsimp only [psh]) <;> try (refine T_icmp_eq (tgt := 137) (pc1 := 132) (pc := 129) k_S_check_129 rfl rfl (fun hcF => ?_) (fun hcF => ?_)))))))))
                | (refine T_iconst (v := (nI 1)) (pc1 := 133) (pc := 132) k_S_check_132 rfl (by decide) ?_ <;> try (refine T_iload (pc1 := 135) (pc := 133) k_S_check_133 rfl rfl ?_ <;> try ((first | with_reducible refine T_iaddN (pc1 := 136) (pc := 135) k_S_check_135 (by decide) ?_ | refine T_iadd (pc1 := 136) (pc := 135) k_S_check_135 rfl ?_) <;> try (refine T_retI (pc := 136) k_S_check_136 rfl (by first | rfl | decide | assumption) ?_))))
                | refine T_iload (pc1 := 85) (pc := 83) k_S_check_83 rfl rfl ?_
                | (with_reducible refine T_icmp_geN (tgt := 100) (pc1 := 88) (pc := 85) k_S_check_85 (by decide) (by decide) (by omega) (by omega) (fun hc => ?_) (fun hc => ?_) <;> first | (exfalso; omega) | skip)
                | refine T_icmp_ge_t (tgt := 100) (pc := 85) k_S_check_85 rfl (by decide) ?_
                | refine T_icmp_ge_f (tgt := 100) (pc1 := 88) (pc := 85) k_S_check_85 rfl rfl (by decide) ?_
                | refine T_icmp_ge (tgt := 100) (pc1 := 88) (pc := 85) k_S_check_85 rfl rfl (fun hc => ?_) (fun hc => ?_)
                | refine T_getR (pc1 := 92) (pc := 89) k_S_check_89 rfl f_S_59 rfl (by first | assumption | exact ga G (by decide) rfl | exact lgA LG (by omega)) (by first | assumption | exact gr G (by decide) rfl | exact lgR LG (by omega)) ?_
                | refine T_iload (pc1 := 94) (pc := 92) k_S_check_92 rfl rfl ?_
                | refine T_ialdN (pc1 := 95) (pc := 94) k_S_check_94 rfl (by first | assumption | exact ga G (by decide) rfl | exact lgA LG (by omega)) (by omega) (by omega) (by first | assumption | (simp (disch := omega) only [pI_eq, pI_row, pI_col, va_up_self, va_up_ne, ne_eq, not_false_eq_true, hkp] <;> rfl) | rfl) ?_
                | refine T_iald (pc1 := 95) (pc := 94) k_S_check_94 rfl (by first | assumption | exact ga G (by decide) rfl | exact lgA LG (by omega)) (by assumption) ?_
                | refine T_iload (pc1 := 97) (pc := 95) k_S_check_95 rfl rfl ?_
                | refine T_icmp_eq (tgt := 105) (pc1 := 100) (pc := 97) k_S_check_97 rfl rfl (fun hcE => ?_) (fun hcE => ?_)
                | refine T_iload (pc1 := 103) (pc := 101) k_S_check_101 rfl rfl ?_
                | with_reducible refine T_iaddN (pc1 := 104) (pc := 103) k_S_check_103 (by decide) ?_
                | refine T_iadd (pc1 := 104) (pc := 103) k_S_check_103 rfl ?_
                | refine T_retI (pc := 104) k_S_check_104 rfl (by first | rfl | decide | assumption) ?_
                | refine T_iload (pc1 := 110) (pc := 108) k_S_check_108 rfl rfl ?_
                | refine T_iload (pc1 := 112) (pc := 110) k_S_check_110 rfl rfl ?_
                | (with_reducible refine T_icmp_geN (tgt := 132) (pc1 := 115) (pc := 112) k_S_check_112 (by decide) (by decide) (by omega) (by omega) (fun hc => ?_) (fun hc => ?_) <;> first | (exfalso; omega) | skip)
                | refine T_icmp_ge_t (tgt := 132) (pc := 112) k_S_check_112 rfl (by decide) ?_
                | refine T_icmp_ge_f (tgt := 132) (pc1 := 115) (pc := 112) k_S_check_112 rfl rfl (by decide) ?_
                | refine T_icmp_ge (tgt := 132) (pc1 := 115) (pc := 112) k_S_check_112 rfl rfl (fun hc => ?_) (fun hc => ?_)
                | refine T_getR (pc1 := 119) (pc := 116) k_S_check_116 rfl f_S_59 rfl (by first | assumption | exact ga G (by decide) rfl | exact lgA LG (by omega)) (by first | assumption | exact gr G (by decide) rfl | exact lgR LG (by omega)) ?_
                | refine T_iload (pc1 := 121) (pc := 119) k_S_check_119 rfl rfl ?_
                | refine T_ialdN (pc1 := 122) (pc := 121) k_S_check_121 rfl (by first | assumption | exact ga G (by decide) rfl | exact lgA LG (by omega)) (by omega) (by omega) (by first | assumption | (simp (disch := omega) only [pI_eq, pI_row, pI_col, va_up_self, va_up_ne, ne_eq, not_false_eq_true, hkp] <;> rfl) | rfl) ?_
                | refine T_iald (pc1 := 122) (pc := 121) k_S_check_121 rfl (by first | assumption | exact ga G (by decide) rfl | exact lgA LG (by omega)) (by assumption) ?_
                | refine T_aload_n (pc1 := 123) (pc := 122) k_S_check_122 rfl rfl ?_
                | refine T_aload_nN (pc1 := 123) (pc := 122) k_S_check_122 rfl rfl ?_
                | refine T_getR (pc1 := 126) (pc := 123) k_S_check_123 rfl f_S_23 rfl (by first | assumption | exact ga G (by decide) rfl | exact lgA LG (by omega)) (by first | assumption | exact gr G (by decide) rfl | exact lgR LG (by omega)) ?_
                | (refine T_cV (As := []) (d1 := 1) (pc1 := 129) (pc := 126) k_S_check_126 rfl (by decide) (Nat.le_of_ble_eq_true rfl) rfl o_La_troddenInAll l_S_344 rfl (by first | assumption | exact ga G (by decide) rfl | exact lgA LG (by omega)) rfl (c_La_troddenInAll LG ok3 hJ2L.2.1 ?_) <;> try dsimp only [psh])
                | refine T_icmp_eq (tgt := 137) (pc1 := 132) (pc := 129) k_S_check_129 rfl rfl (fun hcF => ?_) (fun hcF => ?_)
                | refine T_iload (pc1 := 135) (pc := 133) k_S_check_133 rfl rfl ?_
                | with_reducible refine T_iaddN (pc1 := 136) (pc := 135) k_S_check_135 (by decide) ?_
                | refine T_iadd (pc1 := 136) (pc := 135) k_S_check_135 rfl ?_
                | refine T_retI (pc := 136) k_S_check_136 rfl (by first | rfl | decide | assumption) ?_)
              all_goals try (exfalso; omega)
              · rw [if_pos ⟨p1, hcE⟩, if_neg (fun q => p2 q.1)] at hck
                exact done _ (by omega) (by omega) hck
              · rw [if_neg (fun q => hcE q.2)] at hck
                exact done _ (by omega) (by omega) hck
          · rw [if_neg (fun q => p1 q.1)] at hck
            have dn1 := done (2 * k) (by omega) (by omega) hck
            repeat' (first
              | (refine T_iload (pc1 := 83) (pc := 81) k_S_check_81 rfl rfl ?_ <;> try (refine T_iload (pc1 := 85) (pc := 83) k_S_check_83 rfl rfl ?_ <;> try ((first | (with_reducible refine T_icmp_geN (tgt := 100) (pc1 := 88) (pc := 85) k_S_check_85 (by decide) (by decide) (by omega) (by omega) (fun hc => ?_) (fun hc => ?_) <;> first | (exfalso; omega) | skip) | refine T_icmp_ge_t (tgt := 100) (pc := 85) k_S_check_85 rfl (by decide) ?_ | refine T_icmp_ge_f (tgt := 100) (pc1 := 88) (pc := 85) k_S_check_85 rfl rfl (by decide) ?_ | refine T_icmp_ge (tgt := 100) (pc1 := 88) (pc := 85) k_S_check_85 rfl rfl (fun hc => ?_) (fun hc => ?_)))))
              | ((first | refine T_aload_n (pc1 := 89) (pc := 88) k_S_check_88 rfl rfl ?_ | refine T_aload_nN (pc1 := 89) (pc := 88) k_S_check_88 rfl rfl ?_) <;> try (refine T_getR (pc1 := 92) (pc := 89) k_S_check_89 rfl f_S_59 rfl (by first | assumption | exact ga G (by decide) rfl | exact lgA LG (by omega)) (by first | assumption | exact gr G (by decide) rfl | exact lgR LG (by omega)) ?_ <;> try (refine T_iload (pc1 := 94) (pc := 92) k_S_check_92 rfl rfl ?_ <;> try ((first | refine T_ialdN (pc1 := 95) (pc := 94) k_S_check_94 rfl (by first | assumption | exact ga G (by decide) rfl | exact lgA LG (by omega)) (by omega) (by omega) (by first | assumption | (simp (disch := omega) only [pI_eq, pI_row, pI_col, va_up_self, va_up_ne, ne_eq, not_false_eq_true, hkp] <;> rfl) | rfl) ?_ | refine T_iald (pc1 := 95) (pc := 94) k_S_check_94 rfl (by first | assumption | exact ga G (by decide) rfl | exact lgA LG (by omega)) (by assumption) ?_) <;> try (refine T_iload (pc1 := 97) (pc := 95) k_S_check_95 rfl rfl ?_ <;> try (refine T_icmp_eq (tgt := 105) (pc1 := 100) (pc := 97) k_S_check_97 rfl rfl (fun hcE => ?_) (fun hcE => ?_)))))))
              | (refine T_iconst (v := (nI 1)) (pc1 := 101) (pc := 100) k_S_check_100 rfl (by decide) ?_ <;> try (refine T_iload (pc1 := 103) (pc := 101) k_S_check_101 rfl rfl ?_ <;> try ((first | with_reducible refine T_iaddN (pc1 := 104) (pc := 103) k_S_check_103 (by decide) ?_ | refine T_iadd (pc1 := 104) (pc := 103) k_S_check_103 rfl ?_) <;> try (refine T_retI (pc := 104) k_S_check_104 rfl (by first | rfl | decide | assumption) ?_))))
              | refine T_iload (pc1 := 85) (pc := 83) k_S_check_83 rfl rfl ?_
              | (with_reducible refine T_icmp_geN (tgt := 100) (pc1 := 88) (pc := 85) k_S_check_85 (by decide) (by decide) (by omega) (by omega) (fun hc => ?_) (fun hc => ?_) <;> first | (exfalso; omega) | skip)
              | refine T_icmp_ge_t (tgt := 100) (pc := 85) k_S_check_85 rfl (by decide) ?_
              | refine T_icmp_ge_f (tgt := 100) (pc1 := 88) (pc := 85) k_S_check_85 rfl rfl (by decide) ?_
              | refine T_icmp_ge (tgt := 100) (pc1 := 88) (pc := 85) k_S_check_85 rfl rfl (fun hc => ?_) (fun hc => ?_)
              | refine T_getR (pc1 := 92) (pc := 89) k_S_check_89 rfl f_S_59 rfl (by first | assumption | exact ga G (by decide) rfl | exact lgA LG (by omega)) (by first | assumption | exact gr G (by decide) rfl | exact lgR LG (by omega)) ?_
              | refine T_iload (pc1 := 94) (pc := 92) k_S_check_92 rfl rfl ?_
              | refine T_ialdN (pc1 := 95) (pc := 94) k_S_check_94 rfl (by first | assumption | exact ga G (by decide) rfl | exact lgA LG (by omega)) (by omega) (by omega) (by first | assumption | (simp (disch := omega) only [pI_eq, pI_row, pI_col, va_up_self, va_up_ne, ne_eq, not_false_eq_true, hkp] <;> rfl) | rfl) ?_
              | refine T_iald (pc1 := 95) (pc := 94) k_S_check_94 rfl (by first | assumption | exact ga G (by decide) rfl | exact lgA LG (by omega)) (by assumption) ?_
              | refine T_iload (pc1 := 97) (pc := 95) k_S_check_95 rfl rfl ?_
              | refine T_icmp_eq (tgt := 105) (pc1 := 100) (pc := 97) k_S_check_97 rfl rfl (fun hcE => ?_) (fun hcE => ?_)
              | refine T_iload (pc1 := 103) (pc := 101) k_S_check_101 rfl rfl ?_
              | with_reducible refine T_iaddN (pc1 := 104) (pc := 103) k_S_check_103 (by decide) ?_
              | refine T_iadd (pc1 := 104) (pc := 103) k_S_check_103 rfl ?_
              | refine T_retI (pc := 104) k_S_check_104 rfl (by first | rfl | decide | assumption) ?_)
            all_goals first | exact dn1 | (exfalso; omega)
      repeat' (first
        | ((first | refine T_aload_n (pc1 := 1) (pc := 0) k_S_check_0 rfl rfl ?_ | refine T_aload_nN (pc1 := 1) (pc := 0) k_S_check_0 rfl rfl ?_) <;> try (refine T_getV (pc1 := 4) (pc := 1) k_S_check_1 rfl f_S_63 rfl (by first | assumption | exact ga G (by decide) rfl | exact lgA LG (by omega)) (by first | assumption | (simp (disch := omega) only [pI_eq, pI_row, pI_col, va_up_self, va_up_ne, ne_eq, not_false_eq_true, hkp, h1] <;> rfl) | rfl) ?_ <;> try (refine T_istore (pc1 := 6) (pc := 4) k_S_check_4 rfl (Nat.le_of_ble_eq_true rfl) ?_ <;> try ((first | refine T_aload_n (pc1 := 7) (pc := 6) k_S_check_6 rfl rfl ?_ | refine T_aload_nN (pc1 := 7) (pc := 6) k_S_check_6 rfl rfl ?_) <;> try (refine T_iconst (v := (nI 0)) (pc1 := 8) (pc := 7) k_S_check_7 rfl (by decide) ?_ <;> try (refine T_putI (pc1 := 11) (pc := 8) k_S_check_8 rfl f_S_63 rfl (by first | assumption | exact ga G (by decide) rfl | exact lgA LG (by omega)) (by first | rfl | decide | assumption) (by first | rfl | decide | assumption) ?_ <;> try (refine T_iload_n (pc1 := 12) (pc := 11) k_S_check_11 rfl rfl ?_ <;> try (refine T_iload_n (pc1 := 13) (pc := 12) k_S_check_12 rfl rfl ?_ <;> try ((refine T_cS (As := [_, _]) (d1 := 3) (pc1 := 16) (pc := 13) k_S_check_13 rfl (by decide) (Nat.le_of_ble_eq_true rfl) rfl o_S_areSpots l_S_73 rfl (c_S_areSpots (fun hw => ?_) (fun hw => ?_)) <;> try dsimp only [psh]) <;> try ((first | (with_reducible refine T_if_eqN (tgt := 29) (pc1 := 19) (pc := 16) k_S_check_16 (by decide) (by decide) (by omega) (fun hc => ?_) (fun hc => ?_) <;> first | (exfalso; omega) | skip) | refine T_if_eq_t (tgt := 29) (pc := 16) k_S_check_16 rfl (by decide) ?_ | refine T_if_eq_f (tgt := 29) (pc1 := 19) (pc := 16) k_S_check_16 rfl rfl (by decide) ?_ | refine T_if_eq (tgt := 29) (pc1 := 19) (pc := 16) k_S_check_16 rfl rfl (fun hc => ?_) (fun hc => ?_))))))))))))
        | (refine T_iload_n (pc1 := 20) (pc := 19) k_S_check_19 rfl rfl ?_ <;> try (refine T_iconst (v := (nI 1)) (pc1 := 21) (pc := 20) k_S_check_20 rfl (by decide) ?_ <;> try (refine T_bipush (v := (nI 30)) (pc1 := 23) (pc := 21) k_S_check_21 rfl (by decide) ?_ <;> try ((refine T_cS (As := [_, _, _]) (d1 := 1) (pc1 := 26) (pc := 23) k_S_check_23 rfl (by decide) (Nat.le_of_ble_eq_true rfl) rfl o_S_isWithin l_S_77 rfl (c_S_isWithin (fun hw => ?_) (fun hw => ?_)) <;> try dsimp only [psh]) <;> try ((first | (with_reducible refine T_if_neN (tgt := 32) (pc1 := 29) (pc := 26) k_S_check_26 (by decide) (by decide) (by omega) (fun hc => ?_) (fun hc => ?_) <;> first | (exfalso; omega) | skip) | refine T_if_ne_t (tgt := 32) (pc := 26) k_S_check_26 rfl (by decide) ?_ | refine T_if_ne_f (tgt := 32) (pc1 := 29) (pc := 26) k_S_check_26 rfl rfl (by decide) ?_ | refine T_if_ne (tgt := 32) (pc1 := 29) (pc := 26) k_S_check_26 rfl rfl (fun hc => ?_) (fun hc => ?_)))))))
        | (refine T_ldc (v := (-1000000001)) (pc1 := 31) (pc := 29) k_S_check_29 rfl c_S_81 ?_ <;> try (refine T_retI (pc := 31) k_S_check_31 rfl (by first | rfl | decide | assumption) ?_))
        | ((first | refine T_aload_n (pc1 := 33) (pc := 32) k_S_check_32 rfl rfl ?_ | refine T_aload_nN (pc1 := 33) (pc := 32) k_S_check_32 rfl rfl ?_) <;> try (refine T_getV (pc1 := 36) (pc := 33) k_S_check_33 rfl f_S_19 rfl (by first | assumption | exact ga G (by decide) rfl | exact lgA LG (by omega)) (by first | assumption | (simp (disch := omega) only [pI_eq, pI_row, pI_col, va_up_self, va_up_ne, ne_eq, not_false_eq_true, hkp, h1] <;> rfl) | rfl) ?_ <;> try ((first | (with_reducible refine T_if_neN (tgt := 43) (pc1 := 39) (pc := 36) k_S_check_36 (by decide) (by decide) (by omega) (fun hc => ?_) (fun hc => ?_) <;> first | (exfalso; omega) | skip) | refine T_if_ne_t (tgt := 43) (pc := 36) k_S_check_36 rfl (by decide) ?_ | refine T_if_ne_f (tgt := 43) (pc1 := 39) (pc := 36) k_S_check_36 rfl rfl (by decide) ?_ | refine T_if_ne (tgt := 43) (pc1 := 39) (pc := 36) k_S_check_36 rfl rfl (fun hc => ?_) (fun hc => ?_)))))
        | (refine T_ldcw (v := (-1000000002)) (pc1 := 42) (pc := 39) k_S_check_39 rfl c_S_343 ?_ <;> try (refine T_retI (pc := 42) k_S_check_42 rfl (by first | rfl | decide | assumption) ?_))
        | ((first | refine T_aload_n (pc1 := 44) (pc := 43) k_S_check_43 rfl rfl ?_ | refine T_aload_nN (pc1 := 44) (pc := 43) k_S_check_43 rfl rfl ?_) <;> try (refine T_getR (pc1 := 47) (pc := 44) k_S_check_44 rfl f_S_23 rfl (by first | assumption | exact ga G (by decide) rfl | exact lgA LG (by omega)) (by first | assumption | exact gr G (by decide) rfl | exact lgR LG (by omega)) ?_ <;> try ((first | refine T_aload_n (pc1 := 48) (pc := 47) k_S_check_47 rfl rfl ?_ | refine T_aload_nN (pc1 := 48) (pc := 47) k_S_check_47 rfl rfl ?_) <;> try (refine T_getR (pc1 := 51) (pc := 48) k_S_check_48 rfl f_S_16 rfl (by first | assumption | exact ga G (by decide) rfl | exact lgA LG (by omega)) (by first | assumption | exact gr G (by decide) rfl | exact lgR LG (by omega)) ?_ <;> try ((refine T_cV (As := [_]) (d1 := 2) (pc1 := 54) (pc := 51) k_S_check_51 rfl (by decide) (Nat.le_of_ble_eq_true rfl) rfl o_La_takeFrom l_S_197 rfl (by first | assumption | exact ga G (by decide) rfl | exact lgA LG (by omega)) rfl (c_think G (land_21 G) (by decide) ok okw hL2 (fun g' J2 G hg hJ2 hJ2L => ?_)) <;> try dsimp only [psh]) <;> try (refine T_iconst (v := (nI 0)) (pc1 := 55) (pc := 54) k_S_check_54 rfl (by decide) ?_ <;> try (refine T_istore (pc1 := 57) (pc := 55) k_S_check_55 rfl (Nat.le_of_ble_eq_true rfl) ?_ <;> try (refine T_iconst (v := (nI 0)) (pc1 := 58) (pc := 57) k_S_check_57 rfl (by decide) ?_ <;> try (refine T_istore (pc1 := 60) (pc := 58) k_S_check_58 rfl (Nat.le_of_ble_eq_true rfl) ?_)))))))))
        | refine T_getV (pc1 := 4) (pc := 1) k_S_check_1 rfl f_S_63 rfl (by first | assumption | exact ga G (by decide) rfl | exact lgA LG (by omega)) (by first | assumption | (simp (disch := omega) only [pI_eq, pI_row, pI_col, va_up_self, va_up_ne, ne_eq, not_false_eq_true, hkp, h1] <;> rfl) | rfl) ?_
        | refine T_istore (pc1 := 6) (pc := 4) k_S_check_4 rfl (Nat.le_of_ble_eq_true rfl) ?_
        | refine T_aload_n (pc1 := 7) (pc := 6) k_S_check_6 rfl rfl ?_
        | refine T_aload_nN (pc1 := 7) (pc := 6) k_S_check_6 rfl rfl ?_
        | refine T_iconst (v := (nI 0)) (pc1 := 8) (pc := 7) k_S_check_7 rfl (by decide) ?_
        | refine T_putI (pc1 := 11) (pc := 8) k_S_check_8 rfl f_S_63 rfl (by first | assumption | exact ga G (by decide) rfl | exact lgA LG (by omega)) (by first | rfl | decide | assumption) (by first | rfl | decide | assumption) ?_
        | refine T_iload_n (pc1 := 12) (pc := 11) k_S_check_11 rfl rfl ?_
        | refine T_iload_n (pc1 := 13) (pc := 12) k_S_check_12 rfl rfl ?_
        | (refine T_cS (As := [_, _]) (d1 := 3) (pc1 := 16) (pc := 13) k_S_check_13 rfl (by decide) (Nat.le_of_ble_eq_true rfl) rfl o_S_areSpots l_S_73 rfl (c_S_areSpots (fun hw => ?_) (fun hw => ?_)) <;> try dsimp only [psh])
        | (with_reducible refine T_if_eqN (tgt := 29) (pc1 := 19) (pc := 16) k_S_check_16 (by decide) (by decide) (by omega) (fun hc => ?_) (fun hc => ?_) <;> first | (exfalso; omega) | skip)
        | refine T_if_eq_t (tgt := 29) (pc := 16) k_S_check_16 rfl (by decide) ?_
        | refine T_if_eq_f (tgt := 29) (pc1 := 19) (pc := 16) k_S_check_16 rfl rfl (by decide) ?_
        | refine T_if_eq (tgt := 29) (pc1 := 19) (pc := 16) k_S_check_16 rfl rfl (fun hc => ?_) (fun hc => ?_)
        | refine T_iconst (v := (nI 1)) (pc1 := 21) (pc := 20) k_S_check_20 rfl (by decide) ?_
        | refine T_bipush (v := (nI 30)) (pc1 := 23) (pc := 21) k_S_check_21 rfl (by decide) ?_
        | (refine T_cS (As := [_, _, _]) (d1 := 1) (pc1 := 26) (pc := 23) k_S_check_23 rfl (by decide) (Nat.le_of_ble_eq_true rfl) rfl o_S_isWithin l_S_77 rfl (c_S_isWithin (fun hw => ?_) (fun hw => ?_)) <;> try dsimp only [psh])
        | (with_reducible refine T_if_neN (tgt := 32) (pc1 := 29) (pc := 26) k_S_check_26 (by decide) (by decide) (by omega) (fun hc => ?_) (fun hc => ?_) <;> first | (exfalso; omega) | skip)
        | refine T_if_ne_t (tgt := 32) (pc := 26) k_S_check_26 rfl (by decide) ?_
        | refine T_if_ne_f (tgt := 32) (pc1 := 29) (pc := 26) k_S_check_26 rfl rfl (by decide) ?_
        | refine T_if_ne (tgt := 32) (pc1 := 29) (pc := 26) k_S_check_26 rfl rfl (fun hc => ?_) (fun hc => ?_)
        | refine T_retI (pc := 31) k_S_check_31 rfl (by first | rfl | decide | assumption) ?_
        | refine T_getV (pc1 := 36) (pc := 33) k_S_check_33 rfl f_S_19 rfl (by first | assumption | exact ga G (by decide) rfl | exact lgA LG (by omega)) (by first | assumption | (simp (disch := omega) only [pI_eq, pI_row, pI_col, va_up_self, va_up_ne, ne_eq, not_false_eq_true, hkp, h1] <;> rfl) | rfl) ?_
        | (with_reducible refine T_if_neN (tgt := 43) (pc1 := 39) (pc := 36) k_S_check_36 (by decide) (by decide) (by omega) (fun hc => ?_) (fun hc => ?_) <;> first | (exfalso; omega) | skip)
        | refine T_if_ne_t (tgt := 43) (pc := 36) k_S_check_36 rfl (by decide) ?_
        | refine T_if_ne_f (tgt := 43) (pc1 := 39) (pc := 36) k_S_check_36 rfl rfl (by decide) ?_
        | refine T_if_ne (tgt := 43) (pc1 := 39) (pc := 36) k_S_check_36 rfl rfl (fun hc => ?_) (fun hc => ?_)
        | refine T_retI (pc := 42) k_S_check_42 rfl (by first | rfl | decide | assumption) ?_
        | refine T_getR (pc1 := 47) (pc := 44) k_S_check_44 rfl f_S_23 rfl (by first | assumption | exact ga G (by decide) rfl | exact lgA LG (by omega)) (by first | assumption | exact gr G (by decide) rfl | exact lgR LG (by omega)) ?_
        | refine T_aload_n (pc1 := 48) (pc := 47) k_S_check_47 rfl rfl ?_
        | refine T_aload_nN (pc1 := 48) (pc := 47) k_S_check_47 rfl rfl ?_
        | refine T_getR (pc1 := 51) (pc := 48) k_S_check_48 rfl f_S_16 rfl (by first | assumption | exact ga G (by decide) rfl | exact lgA LG (by omega)) (by first | assumption | exact gr G (by decide) rfl | exact lgR LG (by omega)) ?_
        | (refine T_cV (As := [_]) (d1 := 2) (pc1 := 54) (pc := 51) k_S_check_51 rfl (by decide) (Nat.le_of_ble_eq_true rfl) rfl o_La_takeFrom l_S_197 rfl (by first | assumption | exact ga G (by decide) rfl | exact lgA LG (by omega)) rfl (c_think G (land_21 G) (by decide) ok okw hL2 (fun g' J2 G hg hJ2 hJ2L => ?_)) <;> try dsimp only [psh])
        | refine T_iconst (v := (nI 0)) (pc1 := 55) (pc := 54) k_S_check_54 rfl (by decide) ?_
        | refine T_istore (pc1 := 57) (pc := 55) k_S_check_55 rfl (Nat.le_of_ble_eq_true rfl) ?_
        | refine T_iconst (v := (nI 0)) (pc1 := 58) (pc := 57) k_S_check_57 rfl (by decide) ?_
        | refine T_istore (pc1 := 60) (pc := 58) k_S_check_58 rfl (Nat.le_of_ble_eq_true rfl) ?_)
      all_goals try (exfalso; first | exact hw c1 | (apply hw; constructor <;> omega))
      exact loop x 0 _ g' M J2 (by omega) G hg ok (fr_tr x0 (fr_mono hJ2 (fun i hi => Or.inr (Or.inl hi)))) ((hJ2 0 (fun q => by unfold wf1 lnd stk at q; omega)).trans y0) hJ2L rfl
  · rw [checkA, if_neg hok] at kk
    have kk := kk g _ _ G GS_rf x0 y0 rfl
    repeat' (first
      | ((first | refine T_aload_n (pc1 := 1) (pc := 0) k_S_check_0 rfl rfl ?_ | refine T_aload_nN (pc1 := 1) (pc := 0) k_S_check_0 rfl rfl ?_) <;> try (refine T_getV (pc1 := 4) (pc := 1) k_S_check_1 rfl f_S_63 rfl (by first | assumption | exact ga G (by decide) rfl | exact lgA LG (by omega)) (by first | assumption | (simp (disch := omega) only [pI_eq, pI_row, pI_col, va_up_self, va_up_ne, ne_eq, not_false_eq_true, h1] <;> rfl) | rfl) ?_ <;> try (refine T_istore (pc1 := 6) (pc := 4) k_S_check_4 rfl (Nat.le_of_ble_eq_true rfl) ?_ <;> try ((first | refine T_aload_n (pc1 := 7) (pc := 6) k_S_check_6 rfl rfl ?_ | refine T_aload_nN (pc1 := 7) (pc := 6) k_S_check_6 rfl rfl ?_) <;> try (refine T_iconst (v := (nI 0)) (pc1 := 8) (pc := 7) k_S_check_7 rfl (by decide) ?_ <;> try (refine T_putI (pc1 := 11) (pc := 8) k_S_check_8 rfl f_S_63 rfl (by first | assumption | exact ga G (by decide) rfl | exact lgA LG (by omega)) (by first | rfl | decide | assumption) (by first | rfl | decide | assumption) ?_ <;> try (refine T_iload_n (pc1 := 12) (pc := 11) k_S_check_11 rfl rfl ?_ <;> try (refine T_iload_n (pc1 := 13) (pc := 12) k_S_check_12 rfl rfl ?_ <;> try ((refine T_cS (As := [_, _]) (d1 := 3) (pc1 := 16) (pc := 13) k_S_check_13 rfl (by decide) (Nat.le_of_ble_eq_true rfl) rfl o_S_areSpots l_S_73 rfl (c_S_areSpots (fun hw => ?_) (fun hw => ?_)) <;> try dsimp only [psh]) <;> try ((first | (with_reducible refine T_if_eqN (tgt := 29) (pc1 := 19) (pc := 16) k_S_check_16 (by decide) (by decide) (by omega) (fun hc => ?_) (fun hc => ?_) <;> first | (exfalso; omega) | skip) | refine T_if_eq_t (tgt := 29) (pc := 16) k_S_check_16 rfl (by decide) ?_ | refine T_if_eq_f (tgt := 29) (pc1 := 19) (pc := 16) k_S_check_16 rfl rfl (by decide) ?_ | refine T_if_eq (tgt := 29) (pc1 := 19) (pc := 16) k_S_check_16 rfl rfl (fun hc => ?_) (fun hc => ?_))))))))))))
      | (refine T_iload_n (pc1 := 20) (pc := 19) k_S_check_19 rfl rfl ?_ <;> try (refine T_iconst (v := (nI 1)) (pc1 := 21) (pc := 20) k_S_check_20 rfl (by decide) ?_ <;> try (refine T_bipush (v := (nI 30)) (pc1 := 23) (pc := 21) k_S_check_21 rfl (by decide) ?_ <;> try ((refine T_cS (As := [_, _, _]) (d1 := 1) (pc1 := 26) (pc := 23) k_S_check_23 rfl (by decide) (Nat.le_of_ble_eq_true rfl) rfl o_S_isWithin l_S_77 rfl (c_S_isWithin (fun hw => ?_) (fun hw => ?_)) <;> try dsimp only [psh]) <;> try ((first | (with_reducible refine T_if_neN (tgt := 32) (pc1 := 29) (pc := 26) k_S_check_26 (by decide) (by decide) (by omega) (fun hc => ?_) (fun hc => ?_) <;> first | (exfalso; omega) | skip) | refine T_if_ne_t (tgt := 32) (pc := 26) k_S_check_26 rfl (by decide) ?_ | refine T_if_ne_f (tgt := 32) (pc1 := 29) (pc := 26) k_S_check_26 rfl rfl (by decide) ?_ | refine T_if_ne (tgt := 32) (pc1 := 29) (pc := 26) k_S_check_26 rfl rfl (fun hc => ?_) (fun hc => ?_)))))))
      | (refine T_ldc (v := (-1000000001)) (pc1 := 31) (pc := 29) k_S_check_29 rfl c_S_81 ?_ <;> try (refine T_retI (pc := 31) k_S_check_31 rfl (by first | rfl | decide | assumption) ?_))
      | refine T_getV (pc1 := 4) (pc := 1) k_S_check_1 rfl f_S_63 rfl (by first | assumption | exact ga G (by decide) rfl | exact lgA LG (by omega)) (by first | assumption | (simp (disch := omega) only [pI_eq, pI_row, pI_col, va_up_self, va_up_ne, ne_eq, not_false_eq_true, h1] <;> rfl) | rfl) ?_
      | refine T_istore (pc1 := 6) (pc := 4) k_S_check_4 rfl (Nat.le_of_ble_eq_true rfl) ?_
      | refine T_aload_n (pc1 := 7) (pc := 6) k_S_check_6 rfl rfl ?_
      | refine T_aload_nN (pc1 := 7) (pc := 6) k_S_check_6 rfl rfl ?_
      | refine T_iconst (v := (nI 0)) (pc1 := 8) (pc := 7) k_S_check_7 rfl (by decide) ?_
      | refine T_putI (pc1 := 11) (pc := 8) k_S_check_8 rfl f_S_63 rfl (by first | assumption | exact ga G (by decide) rfl | exact lgA LG (by omega)) (by first | rfl | decide | assumption) (by first | rfl | decide | assumption) ?_
      | refine T_iload_n (pc1 := 12) (pc := 11) k_S_check_11 rfl rfl ?_
      | refine T_iload_n (pc1 := 13) (pc := 12) k_S_check_12 rfl rfl ?_
      | (refine T_cS (As := [_, _]) (d1 := 3) (pc1 := 16) (pc := 13) k_S_check_13 rfl (by decide) (Nat.le_of_ble_eq_true rfl) rfl o_S_areSpots l_S_73 rfl (c_S_areSpots (fun hw => ?_) (fun hw => ?_)) <;> try dsimp only [psh])
      | (with_reducible refine T_if_eqN (tgt := 29) (pc1 := 19) (pc := 16) k_S_check_16 (by decide) (by decide) (by omega) (fun hc => ?_) (fun hc => ?_) <;> first | (exfalso; omega) | skip)
      | refine T_if_eq_t (tgt := 29) (pc := 16) k_S_check_16 rfl (by decide) ?_
      | refine T_if_eq_f (tgt := 29) (pc1 := 19) (pc := 16) k_S_check_16 rfl rfl (by decide) ?_
      | refine T_if_eq (tgt := 29) (pc1 := 19) (pc := 16) k_S_check_16 rfl rfl (fun hc => ?_) (fun hc => ?_)
      | refine T_iconst (v := (nI 1)) (pc1 := 21) (pc := 20) k_S_check_20 rfl (by decide) ?_
      | refine T_bipush (v := (nI 30)) (pc1 := 23) (pc := 21) k_S_check_21 rfl (by decide) ?_
      | (refine T_cS (As := [_, _, _]) (d1 := 1) (pc1 := 26) (pc := 23) k_S_check_23 rfl (by decide) (Nat.le_of_ble_eq_true rfl) rfl o_S_isWithin l_S_77 rfl (c_S_isWithin (fun hw => ?_) (fun hw => ?_)) <;> try dsimp only [psh])
      | (with_reducible refine T_if_neN (tgt := 32) (pc1 := 29) (pc := 26) k_S_check_26 (by decide) (by decide) (by omega) (fun hc => ?_) (fun hc => ?_) <;> first | (exfalso; omega) | skip)
      | refine T_if_ne_t (tgt := 32) (pc := 26) k_S_check_26 rfl (by decide) ?_
      | refine T_if_ne_f (tgt := 32) (pc1 := 29) (pc := 26) k_S_check_26 rfl rfl (by decide) ?_
      | refine T_if_ne (tgt := 32) (pc1 := 29) (pc := 26) k_S_check_26 rfl rfl (fun hc => ?_) (fun hc => ?_)
      | refine T_retI (pc := 31) k_S_check_31 rfl (by first | rfl | decide | assumption) ?_)
    all_goals first | exact kk | (exfalso; exact hok ⟨by assumption, by constructor <;> omega⟩)
theorem c_S_keep {N : Row} {n tn : Nat} (G : GeoOK g) (ok : okL N n tn) (okw : okW N) (hL : LaR g I 1 N n tn) (kk : ∀ g' J, GeoOK g' → GS 23 g g' → fre (fun i => i = 0 ∨ lnd 21 i) I J → J 0 = va_up (I 0) 2 (nI 1) → LaR g' J 21 N n tn → K (some (.int (nI n))) g' J) : Cl 3 M_S_keep [.ref 0] g I K := by
  show Rl 3 M_S_keep 0 [some (.ref 0)] [] g I K
  have h14 := ok.2.1
  repeat' (first
    | ((first | refine T_aload_n (pc1 := 1) (pc := 0) k_S_keep_0 rfl rfl ?_ | refine T_aload_nN (pc1 := 1) (pc := 0) k_S_keep_0 rfl rfl ?_) <;> try (refine T_getR (pc1 := 4) (pc := 1) k_S_keep_1 rfl f_S_16 rfl (by first | assumption | exact ga G (by decide) rfl | exact lgA LG (by omega)) (by first | assumption | exact gr G (by decide) rfl | exact lgR LG (by omega)) ?_ <;> try ((first | refine T_aload_n (pc1 := 5) (pc := 4) k_S_keep_4 rfl rfl ?_ | refine T_aload_nN (pc1 := 5) (pc := 4) k_S_keep_4 rfl rfl ?_) <;> try (refine T_getR (pc1 := 8) (pc := 5) k_S_keep_5 rfl f_S_10 rfl (by first | assumption | exact ga G (by decide) rfl | exact lgA LG (by omega)) (by first | assumption | exact gr G (by decide) rfl | exact lgR LG (by omega)) ?_ <;> try ((refine T_cV (As := [_]) (d1 := 2) (pc1 := 11) (pc := 8) k_S_keep_8 rfl (by decide) (Nat.le_of_ble_eq_true rfl) rfl o_La_takeFrom l_S_197 rfl (by first | assumption | exact ga G (by decide) rfl | exact lgA LG (by omega)) rfl (c_La_takeFrom (land_21 G) (land_1 G) (Or.inr (by decide)) ok okw hL (fun g' J hg hJ hJL => ?_)) <;> try dsimp only [psh]))))))
    | refine T_getR (pc1 := 4) (pc := 1) k_S_keep_1 rfl f_S_16 rfl (by first | assumption | exact ga G (by decide) rfl | exact lgA LG (by omega)) (by first | assumption | exact gr G (by decide) rfl | exact lgR LG (by omega)) ?_
    | refine T_aload_n (pc1 := 5) (pc := 4) k_S_keep_4 rfl rfl ?_
    | refine T_aload_nN (pc1 := 5) (pc := 4) k_S_keep_4 rfl rfl ?_
    | refine T_getR (pc1 := 8) (pc := 5) k_S_keep_5 rfl f_S_10 rfl (by first | assumption | exact ga G (by decide) rfl | exact lgA LG (by omega)) (by first | assumption | exact gr G (by decide) rfl | exact lgR LG (by omega)) ?_
    | (refine T_cV (As := [_]) (d1 := 2) (pc1 := 11) (pc := 8) k_S_keep_8 rfl (by decide) (Nat.le_of_ble_eq_true rfl) rfl o_La_takeFrom l_S_197 rfl (by first | assumption | exact ga G (by decide) rfl | exact lgA LG (by omega)) rfl (c_La_takeFrom (land_21 G) (land_1 G) (Or.inr (by decide)) ok okw hL (fun g' J hg hJ hJL => ?_)) <;> try dsimp only [psh]))
  have G2 := GS_G hg (Or.inr (Or.inl rfl)) G
  clear G
  have G := G2
  have j0 : J 0 = I 0 := hJ 0 (fun q => by unfold lnd at q; omega)
  have hJL2 : LaR g' (pI J 0 2 (nI 1)) 21 N n tn := LR_fr hJL h14 (r := 43) GS_rf (by decide) (by decide) (fr_pI (P := fun i => i = 0) fr_rf rfl) (fun i hi q => by unfold lnd at hi; omega) (fun i hi => Or.inl (by omega))
  have b1 := hJL2.2.1.1
  repeat' (first
    | ((first | refine T_aload_n (pc1 := 12) (pc := 11) k_S_keep_11 rfl rfl ?_ | refine T_aload_nN (pc1 := 12) (pc := 11) k_S_keep_11 rfl rfl ?_) <;> try (refine T_iconst (v := (nI 1)) (pc1 := 13) (pc := 12) k_S_keep_12 rfl (by decide) ?_ <;> try (refine T_putI (pc1 := 16) (pc := 13) k_S_keep_13 rfl f_S_19 rfl (by first | assumption | exact ga G (by decide) rfl | exact lgA LG (by omega)) (by first | rfl | decide | assumption) (by first | rfl | decide | assumption) ?_ <;> try ((first | refine T_aload_n (pc1 := 17) (pc := 16) k_S_keep_16 rfl rfl ?_ | refine T_aload_nN (pc1 := 17) (pc := 16) k_S_keep_16 rfl rfl ?_) <;> try (refine T_getR (pc1 := 20) (pc := 17) k_S_keep_17 rfl f_S_16 rfl (by first | assumption | exact ga G (by decide) rfl | exact lgA LG (by omega)) (by first | assumption | exact gr G (by decide) rfl | exact lgR LG (by omega)) ?_ <;> try (refine T_getV (pc1 := 23) (pc := 20) k_S_keep_20 rfl f_S_82 rfl (by first | assumption | exact ga G (by decide) rfl | exact lgA LG (by omega)) (by first | assumption | (simp (disch := omega) only [pI_eq, pI_row, pI_col, va_up_self, va_up_ne, ne_eq, not_false_eq_true] <;> rfl) | rfl) ?_ <;> try (refine T_retI (pc := 23) k_S_keep_23 rfl (by first | rfl | decide | assumption) ?_)))))))
    | refine T_iconst (v := (nI 1)) (pc1 := 13) (pc := 12) k_S_keep_12 rfl (by decide) ?_
    | refine T_putI (pc1 := 16) (pc := 13) k_S_keep_13 rfl f_S_19 rfl (by first | assumption | exact ga G (by decide) rfl | exact lgA LG (by omega)) (by first | rfl | decide | assumption) (by first | rfl | decide | assumption) ?_
    | refine T_aload_n (pc1 := 17) (pc := 16) k_S_keep_16 rfl rfl ?_
    | refine T_aload_nN (pc1 := 17) (pc := 16) k_S_keep_16 rfl rfl ?_
    | refine T_getR (pc1 := 20) (pc := 17) k_S_keep_17 rfl f_S_16 rfl (by first | assumption | exact ga G (by decide) rfl | exact lgA LG (by omega)) (by first | assumption | exact gr G (by decide) rfl | exact lgR LG (by omega)) ?_
    | refine T_getV (pc1 := 23) (pc := 20) k_S_keep_20 rfl f_S_82 rfl (by first | assumption | exact ga G (by decide) rfl | exact lgA LG (by omega)) (by first | assumption | (simp (disch := omega) only [pI_eq, pI_row, pI_col, va_up_self, va_up_ne, ne_eq, not_false_eq_true] <;> rfl) | rfl) ?_
    | refine T_retI (pc := 23) k_S_keep_23 rfl (by first | rfl | decide | assumption) ?_)
  exact kk g' _ G hg (fr_pI (fr_mono hJ (fun i hi => Or.inr hi)) (Or.inl rfl)) (by rw [pI_self, j0]) hJL2
theorem c_S_back0 (G : GeoOK g) (h : I 0 2 = nI 0) (kk : K (some (.int cNO)) g I) : Cl 3 M_S_back [.ref 0] g I K := by
  show Rl 3 M_S_back 0 [some (.ref 0)] [] g I K
  repeat' (first
    | ((first | refine T_aload_n (pc1 := 1) (pc := 0) k_S_back_0 rfl rfl ?_ | refine T_aload_nN (pc1 := 1) (pc := 0) k_S_back_0 rfl rfl ?_) <;> try (refine T_getV (pc1 := 4) (pc := 1) k_S_back_1 rfl f_S_19 rfl (by first | assumption | exact ga G (by decide) rfl | exact lgA LG (by omega)) (by first | assumption | (simp (disch := omega) only [pI_eq, pI_row, pI_col, va_up_self, va_up_ne, ne_eq, not_false_eq_true] <;> rfl) | rfl) ?_ <;> try ((first | (with_reducible refine T_if_neN (tgt := 11) (pc1 := 7) (pc := 4) k_S_back_4 (by decide) (by decide) (by omega) (fun hc => ?_) (fun hc => ?_) <;> first | (exfalso; omega) | skip) | refine T_if_ne_t (tgt := 11) (pc := 4) k_S_back_4 rfl (by decide) ?_ | refine T_if_ne_f (tgt := 11) (pc1 := 7) (pc := 4) k_S_back_4 rfl rfl (by decide) ?_ | refine T_if_ne (tgt := 11) (pc1 := 7) (pc := 4) k_S_back_4 rfl rfl (fun hc => ?_) (fun hc => ?_)))))
    | (refine T_ldcw (v := (-1000000002)) (pc1 := 10) (pc := 7) k_S_back_7 rfl c_S_343 ?_ <;> try (refine T_retI (pc := 10) k_S_back_10 rfl (by first | rfl | decide | assumption) ?_))
    | refine T_getV (pc1 := 4) (pc := 1) k_S_back_1 rfl f_S_19 rfl (by first | assumption | exact ga G (by decide) rfl | exact lgA LG (by omega)) (by first | assumption | (simp (disch := omega) only [pI_eq, pI_row, pI_col, va_up_self, va_up_ne, ne_eq, not_false_eq_true] <;> rfl) | rfl) ?_
    | (with_reducible refine T_if_neN (tgt := 11) (pc1 := 7) (pc := 4) k_S_back_4 (by decide) (by decide) (by omega) (fun hc => ?_) (fun hc => ?_) <;> first | (exfalso; omega) | skip)
    | refine T_if_ne_t (tgt := 11) (pc := 4) k_S_back_4 rfl (by decide) ?_
    | refine T_if_ne_f (tgt := 11) (pc1 := 7) (pc := 4) k_S_back_4 rfl rfl (by decide) ?_
    | refine T_if_ne (tgt := 11) (pc1 := 7) (pc := 4) k_S_back_4 rfl rfl (fun hc => ?_) (fun hc => ?_)
    | refine T_retI (pc := 10) k_S_back_10 rfl (by first | rfl | decide | assumption) ?_)
  exact kk
theorem c_S_back1 {M : Row} {n tn : Nat} (G : GeoOK g) (h : I 0 2 = nI 1) (ok : okL M n tn) (okw : okW M) (hL : LaR g I 21 M n tn) (kk : ∀ g' J, GeoOK g' → GS 3 g g' → fre (lnd 1) I J → LaR g' J 1 M n tn → K (some (.int (nI n))) g' J) : Cl 3 M_S_back [.ref 0] g I K := by
  show Rl 3 M_S_back 0 [some (.ref 0)] [] g I K
  repeat' (first
    | ((first | refine T_aload_n (pc1 := 1) (pc := 0) k_S_back_0 rfl rfl ?_ | refine T_aload_nN (pc1 := 1) (pc := 0) k_S_back_0 rfl rfl ?_) <;> try (refine T_getV (pc1 := 4) (pc := 1) k_S_back_1 rfl f_S_19 rfl (by first | assumption | exact ga G (by decide) rfl | exact lgA LG (by omega)) (by first | assumption | (simp (disch := omega) only [pI_eq, pI_row, pI_col, va_up_self, va_up_ne, ne_eq, not_false_eq_true] <;> rfl) | rfl) ?_ <;> try ((first | (with_reducible refine T_if_neN (tgt := 11) (pc1 := 7) (pc := 4) k_S_back_4 (by decide) (by decide) (by omega) (fun hc => ?_) (fun hc => ?_) <;> first | (exfalso; omega) | skip) | refine T_if_ne_t (tgt := 11) (pc := 4) k_S_back_4 rfl (by decide) ?_ | refine T_if_ne_f (tgt := 11) (pc1 := 7) (pc := 4) k_S_back_4 rfl rfl (by decide) ?_ | refine T_if_ne (tgt := 11) (pc1 := 7) (pc := 4) k_S_back_4 rfl rfl (fun hc => ?_) (fun hc => ?_)))))
    | (refine T_ldcw (v := (-1000000002)) (pc1 := 10) (pc := 7) k_S_back_7 rfl c_S_343 ?_ <;> try (refine T_retI (pc := 10) k_S_back_10 rfl (by first | rfl | decide | assumption) ?_))
    | ((first | refine T_aload_n (pc1 := 12) (pc := 11) k_S_back_11 rfl rfl ?_ | refine T_aload_nN (pc1 := 12) (pc := 11) k_S_back_11 rfl rfl ?_) <;> try (refine T_getR (pc1 := 15) (pc := 12) k_S_back_12 rfl f_S_10 rfl (by first | assumption | exact ga G (by decide) rfl | exact lgA LG (by omega)) (by first | assumption | exact gr G (by decide) rfl | exact lgR LG (by omega)) ?_ <;> try ((first | refine T_aload_n (pc1 := 16) (pc := 15) k_S_back_15 rfl rfl ?_ | refine T_aload_nN (pc1 := 16) (pc := 15) k_S_back_15 rfl rfl ?_) <;> try (refine T_getR (pc1 := 19) (pc := 16) k_S_back_16 rfl f_S_16 rfl (by first | assumption | exact ga G (by decide) rfl | exact lgA LG (by omega)) (by first | assumption | exact gr G (by decide) rfl | exact lgR LG (by omega)) ?_ <;> try ((refine T_cV (As := [_]) (d1 := 2) (pc1 := 22) (pc := 19) k_S_back_19 rfl (by decide) (Nat.le_of_ble_eq_true rfl) rfl o_La_takeFrom l_S_197 rfl (by first | assumption | exact ga G (by decide) rfl | exact lgA LG (by omega)) rfl (c_La_takeFrom (land_1 G) (land_21 G) (Or.inl (by decide)) ok okw hL (fun g' J hg hJ hJL => ?_)) <;> try dsimp only [psh]))))))
    | refine T_getV (pc1 := 4) (pc := 1) k_S_back_1 rfl f_S_19 rfl (by first | assumption | exact ga G (by decide) rfl | exact lgA LG (by omega)) (by first | assumption | (simp (disch := omega) only [pI_eq, pI_row, pI_col, va_up_self, va_up_ne, ne_eq, not_false_eq_true] <;> rfl) | rfl) ?_
    | (with_reducible refine T_if_neN (tgt := 11) (pc1 := 7) (pc := 4) k_S_back_4 (by decide) (by decide) (by omega) (fun hc => ?_) (fun hc => ?_) <;> first | (exfalso; omega) | skip)
    | refine T_if_ne_t (tgt := 11) (pc := 4) k_S_back_4 rfl (by decide) ?_
    | refine T_if_ne_f (tgt := 11) (pc1 := 7) (pc := 4) k_S_back_4 rfl rfl (by decide) ?_
    | refine T_if_ne (tgt := 11) (pc1 := 7) (pc := 4) k_S_back_4 rfl rfl (fun hc => ?_) (fun hc => ?_)
    | refine T_retI (pc := 10) k_S_back_10 rfl (by first | rfl | decide | assumption) ?_
    | refine T_getR (pc1 := 15) (pc := 12) k_S_back_12 rfl f_S_10 rfl (by first | assumption | exact ga G (by decide) rfl | exact lgA LG (by omega)) (by first | assumption | exact gr G (by decide) rfl | exact lgR LG (by omega)) ?_
    | refine T_aload_n (pc1 := 16) (pc := 15) k_S_back_15 rfl rfl ?_
    | refine T_aload_nN (pc1 := 16) (pc := 15) k_S_back_15 rfl rfl ?_
    | refine T_getR (pc1 := 19) (pc := 16) k_S_back_16 rfl f_S_16 rfl (by first | assumption | exact ga G (by decide) rfl | exact lgA LG (by omega)) (by first | assumption | exact gr G (by decide) rfl | exact lgR LG (by omega)) ?_
    | (refine T_cV (As := [_]) (d1 := 2) (pc1 := 22) (pc := 19) k_S_back_19 rfl (by decide) (Nat.le_of_ble_eq_true rfl) rfl o_La_takeFrom l_S_197 rfl (by first | assumption | exact ga G (by decide) rfl | exact lgA LG (by omega)) rfl (c_La_takeFrom (land_1 G) (land_21 G) (Or.inl (by decide)) ok okw hL (fun g' J hg hJ hJL => ?_)) <;> try dsimp only [psh]))
  have G2 := GS_G hg (Or.inl rfl) G
  clear G
  have G := G2
  have b1 := hJL.2.1.1
  repeat' (first
    | ((first | refine T_aload_n (pc1 := 23) (pc := 22) k_S_back_22 rfl rfl ?_ | refine T_aload_nN (pc1 := 23) (pc := 22) k_S_back_22 rfl rfl ?_) <;> try (refine T_getR (pc1 := 26) (pc := 23) k_S_back_23 rfl f_S_10 rfl (by first | assumption | exact ga G (by decide) rfl | exact lgA LG (by omega)) (by first | assumption | exact gr G (by decide) rfl | exact lgR LG (by omega)) ?_ <;> try (refine T_getV (pc1 := 29) (pc := 26) k_S_back_26 rfl f_S_82 rfl (by first | assumption | exact ga G (by decide) rfl | exact lgA LG (by omega)) (by first | assumption | (simp (disch := omega) only [pI_eq, pI_row, pI_col, va_up_self, va_up_ne, ne_eq, not_false_eq_true] <;> rfl) | rfl) ?_ <;> try (refine T_retI (pc := 29) k_S_back_29 rfl (by first | rfl | decide | assumption) ?_))))
    | refine T_getR (pc1 := 26) (pc := 23) k_S_back_23 rfl f_S_10 rfl (by first | assumption | exact ga G (by decide) rfl | exact lgA LG (by omega)) (by first | assumption | exact gr G (by decide) rfl | exact lgR LG (by omega)) ?_
    | refine T_getV (pc1 := 29) (pc := 26) k_S_back_26 rfl f_S_82 rfl (by first | assumption | exact ga G (by decide) rfl | exact lgA LG (by omega)) (by first | assumption | (simp (disch := omega) only [pI_eq, pI_row, pI_col, va_up_self, va_up_ne, ne_eq, not_false_eq_true] <;> rfl) | rfl) ?_
    | refine T_retI (pc := 29) k_S_back_29 rfl (by first | rfl | decide | assumption) ?_)
  exact kk g' J G hg hJ hJL
set_option maxHeartbeats 4000000 in
theorem c_S_count {N Wt T : Row} {n tn w z : Nat} {v : Int32} (G : GeoOK g) (ok : okL N n tn) (hL : LaR g I 1 N n tn) (hW : CW I Wt w) (hT : CT I T z) (kk : ∀ r, r = countA N n w z v → K (some (.int r)) g I) : Cl 2 M_S_count [.ref 0, .int v] g I K := by
  show Rl 2 M_S_count 0 [some (.ref 0), some (.int v)] [] g I K
  have LG := land_1 G
  obtain ⟨LT, LB, -, s1, s2, s3⟩ := id hL
  obtain ⟨b1, b2, b3, b4⟩ := id LB
  have t8 := LT.2.1
  have w1 := hW.1
  have t1 := hT.1
  have n5 := ok.1
  have n6 := ok.2.2.1
  by_cases hv : rg 11 v
  · obtain ⟨q, hq, rfl⟩ := rg_of hv (by omega)
    obtain rfl | rfl | rfl | rfl | rfl | rfl | rfl | rfl | rfl | rfl | rfl : q = 0 ∨ q = 1 ∨ q = 2 ∨ q = 3 ∨ q = 4 ∨ q = 5 ∨ q = 6 ∨ q = 7 ∨ q = 8 ∨ q = 9 ∨ q = 10 := by omega
    all_goals
      repeat' (first
        | (refine T_iload_n (pc1 := 1) (pc := 0) k_S_count_0 rfl rfl ?_)
        | ((first | (with_reducible refine swN_S_count_1 (by omega) (fun hc => ?_) (fun hc => ?_) (fun hc => ?_) (fun hc => ?_) (fun hc => ?_) (fun hc => ?_) (fun hc => ?_) (fun hc => ?_) (fun hc => ?_) (fun hc => ?_) (fun hc => ?_) (fun hc => ?_) <;> first | (exfalso; omega) | skip) | refine sw_S_count_1 (fun hc => ?_) (fun hc => ?_) (fun hc => ?_) (fun hc => ?_) (fun hc => ?_) (fun hc => ?_) (fun hc => ?_) (fun hc => ?_) (fun hc => ?_) (fun hc => ?_) (fun hc => ?_) (fun hc => ?_)))
        | ((first | refine T_aload_n (pc1 := 61) (pc := 60) k_S_count_60 rfl rfl ?_ | refine T_aload_nN (pc1 := 61) (pc := 60) k_S_count_60 rfl rfl ?_) <;> try (refine T_getR (pc1 := 64) (pc := 61) k_S_count_61 rfl f_S_10 rfl (by first | assumption | exact ga G (by decide) rfl | exact lgA LG (by omega)) (by first | assumption | exact gr G (by decide) rfl | exact lgR LG (by omega)) ?_ <;> try (refine T_getV (pc1 := 67) (pc := 64) k_S_count_64 rfl f_S_82 rfl (by first | assumption | exact ga G (by decide) rfl | exact lgA LG (by omega)) (by first | assumption | (simp (disch := omega) only [pI_eq, pI_row, pI_col, va_up_self, va_up_ne, ne_eq, not_false_eq_true] <;> rfl) | rfl) ?_ <;> try (refine T_retI (pc := 67) k_S_count_67 rfl (by first | rfl | decide | assumption) ?_))))
        | ((first | refine T_aload_n (pc1 := 69) (pc := 68) k_S_count_68 rfl rfl ?_ | refine T_aload_nN (pc1 := 69) (pc := 68) k_S_count_68 rfl rfl ?_) <;> try (refine T_getR (pc1 := 72) (pc := 69) k_S_count_69 rfl f_S_10 rfl (by first | assumption | exact ga G (by decide) rfl | exact lgA LG (by omega)) (by first | assumption | exact gr G (by decide) rfl | exact lgR LG (by omega)) ?_ <;> try (refine T_getV (pc1 := 75) (pc := 72) k_S_count_72 rfl f_S_245 rfl (by first | assumption | exact ga G (by decide) rfl | exact lgA LG (by omega)) (by first | assumption | (simp (disch := omega) only [pI_eq, pI_row, pI_col, va_up_self, va_up_ne, ne_eq, not_false_eq_true] <;> rfl) | rfl) ?_ <;> try (refine T_retI (pc := 75) k_S_count_75 rfl (by first | rfl | decide | assumption) ?_))))
        | ((first | refine T_aload_n (pc1 := 77) (pc := 76) k_S_count_76 rfl rfl ?_ | refine T_aload_nN (pc1 := 77) (pc := 76) k_S_count_76 rfl rfl ?_) <;> try (refine T_getR (pc1 := 80) (pc := 77) k_S_count_77 rfl f_S_10 rfl (by first | assumption | exact ga G (by decide) rfl | exact lgA LG (by omega)) (by first | assumption | exact gr G (by decide) rfl | exact lgR LG (by omega)) ?_ <;> try (refine T_getV (pc1 := 83) (pc := 80) k_S_count_80 rfl f_S_242 rfl (by first | assumption | exact ga G (by decide) rfl | exact lgA LG (by omega)) (by first | assumption | (simp (disch := omega) only [pI_eq, pI_row, pI_col, va_up_self, va_up_ne, ne_eq, not_false_eq_true] <;> rfl) | rfl) ?_ <;> try (refine T_retI (pc := 83) k_S_count_83 rfl (by first | rfl | decide | assumption) ?_))))
        | ((first | refine T_aload_n (pc1 := 85) (pc := 84) k_S_count_84 rfl rfl ?_ | refine T_aload_nN (pc1 := 85) (pc := 84) k_S_count_84 rfl rfl ?_) <;> try (refine T_getR (pc1 := 88) (pc := 85) k_S_count_85 rfl f_S_10 rfl (by first | assumption | exact ga G (by decide) rfl | exact lgA LG (by omega)) (by first | assumption | exact gr G (by decide) rfl | exact lgR LG (by omega)) ?_ <;> try (refine T_getV (pc1 := 91) (pc := 88) k_S_count_88 rfl f_S_121 rfl (by first | assumption | exact ga G (by decide) rfl | exact lgA LG (by omega)) (by first | assumption | (simp (disch := omega) only [pI_eq, pI_row, pI_col, va_up_self, va_up_ne, ne_eq, not_false_eq_true] <;> rfl) | rfl) ?_ <;> try (refine T_retI (pc := 91) k_S_count_91 rfl (by first | rfl | decide | assumption) ?_))))
        | ((first | refine T_aload_n (pc1 := 93) (pc := 92) k_S_count_92 rfl rfl ?_ | refine T_aload_nN (pc1 := 93) (pc := 92) k_S_count_92 rfl rfl ?_) <;> try (refine T_getR (pc1 := 96) (pc := 93) k_S_count_93 rfl f_S_10 rfl (by first | assumption | exact ga G (by decide) rfl | exact lgA LG (by omega)) (by first | assumption | exact gr G (by decide) rfl | exact lgR LG (by omega)) ?_ <;> try (refine T_getV (pc1 := 99) (pc := 96) k_S_count_96 rfl f_S_149 rfl (by first | assumption | exact ga G (by decide) rfl | exact lgA LG (by omega)) (by first | assumption | (simp (disch := omega) only [pI_eq, pI_row, pI_col, va_up_self, va_up_ne, ne_eq, not_false_eq_true] <;> rfl) | rfl) ?_ <;> try (refine T_retI (pc := 99) k_S_count_99 rfl (by first | rfl | decide | assumption) ?_))))
        | ((first | refine T_aload_n (pc1 := 101) (pc := 100) k_S_count_100 rfl rfl ?_ | refine T_aload_nN (pc1 := 101) (pc := 100) k_S_count_100 rfl rfl ?_) <;> try (refine T_getR (pc1 := 104) (pc := 101) k_S_count_101 rfl f_S_10 rfl (by first | assumption | exact ga G (by decide) rfl | exact lgA LG (by omega)) (by first | assumption | exact gr G (by decide) rfl | exact lgR LG (by omega)) ?_ <;> try ((refine T_cV (As := []) (d1 := 1) (pc1 := 107) (pc := 104) k_S_count_104 rfl (by decide) (Nat.le_of_ble_eq_true rfl) rfl o_La_troddenInAll l_S_344 rfl (by first | assumption | exact ga G (by decide) rfl | exact lgA LG (by omega)) rfl (c_La_troddenInAll LG ok LB ?_) <;> try dsimp only [psh]) <;> try (refine T_retI (pc := 107) k_S_count_107 rfl (by first | rfl | decide | assumption) ?_))))
        | ((first | refine T_aload_n (pc1 := 109) (pc := 108) k_S_count_108 rfl rfl ?_ | refine T_aload_nN (pc1 := 109) (pc := 108) k_S_count_108 rfl rfl ?_) <;> try (refine T_getR (pc1 := 112) (pc := 109) k_S_count_109 rfl f_S_10 rfl (by first | assumption | exact ga G (by decide) rfl | exact lgA LG (by omega)) (by first | assumption | exact gr G (by decide) rfl | exact lgR LG (by omega)) ?_ <;> try ((refine T_cV (As := []) (d1 := 1) (pc1 := 115) (pc := 112) k_S_count_112 rfl (by decide) (Nat.le_of_ble_eq_true rfl) rfl o_La_saidInAll l_S_190 rfl (by first | assumption | exact ga G (by decide) rfl | exact lgA LG (by omega)) rfl (c_La_saidInAll LG ok LB ?_) <;> try dsimp only [psh]) <;> try (refine T_retI (pc := 115) k_S_count_115 rfl (by first | rfl | decide | assumption) ?_))))
        | ((first | refine T_aload_n (pc1 := 117) (pc := 116) k_S_count_116 rfl rfl ?_ | refine T_aload_nN (pc1 := 117) (pc := 116) k_S_count_116 rfl rfl ?_) <;> try (refine T_getR (pc1 := 120) (pc := 117) k_S_count_117 rfl f_S_10 rfl (by first | assumption | exact ga G (by decide) rfl | exact lgA LG (by omega)) (by first | assumption | exact gr G (by decide) rfl | exact lgR LG (by omega)) ?_ <;> try (refine T_getV (pc1 := 123) (pc := 120) k_S_count_120 rfl f_S_273 rfl (by first | assumption | exact ga G (by decide) rfl | exact lgA LG (by omega)) (by first | assumption | (simp (disch := omega) only [pI_eq, pI_row, pI_col, va_up_self, va_up_ne, ne_eq, not_false_eq_true] <;> rfl) | rfl) ?_ <;> try (refine T_retI (pc := 123) k_S_count_123 rfl (by first | rfl | decide | assumption) ?_))))
        | ((first | refine T_aload_n (pc1 := 125) (pc := 124) k_S_count_124 rfl rfl ?_ | refine T_aload_nN (pc1 := 125) (pc := 124) k_S_count_124 rfl rfl ?_) <;> try (refine T_getV (pc1 := 128) (pc := 125) k_S_count_125 rfl f_S_63 rfl (by first | assumption | exact ga G (by decide) rfl | exact lgA LG (by omega)) (by first | assumption | (simp (disch := omega) only [pI_eq, pI_row, pI_col, va_up_self, va_up_ne, ne_eq, not_false_eq_true] <;> rfl) | rfl) ?_ <;> try (refine T_retI (pc := 128) k_S_count_128 rfl (by first | rfl | decide | assumption) ?_)))
        | ((first | refine T_aload_n (pc1 := 130) (pc := 129) k_S_count_129 rfl rfl ?_ | refine T_aload_nN (pc1 := 130) (pc := 129) k_S_count_129 rfl rfl ?_) <;> try (refine T_getR (pc1 := 133) (pc := 130) k_S_count_130 rfl f_S_43 rfl (by first | assumption | exact ga G (by decide) rfl | exact lgA LG (by omega)) (by first | assumption | exact gr G (by decide) rfl | exact lgR LG (by omega)) ?_ <;> try (refine T_getR (pc1 := 136) (pc := 133) k_S_count_133 rfl f_S_253 rfl (by first | assumption | exact ga G (by decide) rfl | exact lgA LG (by omega)) (by first | assumption | exact gr G (by decide) rfl | exact lgR LG (by omega)) ?_ <;> try (refine T_getV (pc1 := 139) (pc := 136) k_S_count_136 rfl f_S_266 rfl (by first | assumption | exact ga G (by decide) rfl | exact lgA LG (by omega)) (by first | assumption | (simp (disch := omega) only [pI_eq, pI_row, pI_col, va_up_self, va_up_ne, ne_eq, not_false_eq_true] <;> rfl) | rfl) ?_ <;> try (refine T_retI (pc := 139) k_S_count_139 rfl (by first | rfl | decide | assumption) ?_)))))
        | ((first | refine T_aload_n (pc1 := 141) (pc := 140) k_S_count_140 rfl rfl ?_ | refine T_aload_nN (pc1 := 141) (pc := 140) k_S_count_140 rfl rfl ?_) <;> try (refine T_getR (pc1 := 144) (pc := 141) k_S_count_141 rfl f_S_10 rfl (by first | assumption | exact ga G (by decide) rfl | exact lgA LG (by omega)) (by first | assumption | exact gr G (by decide) rfl | exact lgR LG (by omega)) ?_ <;> try (refine T_getV (pc1 := 147) (pc := 144) k_S_count_144 rfl f_S_161 rfl (by first | assumption | exact ga G (by decide) rfl | exact lgA LG (by omega)) (by first | assumption | (simp (disch := omega) only [pI_eq, pI_row, pI_col, va_up_self, va_up_ne, ne_eq, not_false_eq_true] <;> rfl) | rfl) ?_ <;> try (refine T_retI (pc := 147) k_S_count_147 rfl (by first | rfl | decide | assumption) ?_))))
        | (refine T_ldc (v := (-1000000001)) (pc1 := 150) (pc := 148) k_S_count_148 rfl c_S_81 ?_ <;> try (refine T_retI (pc := 150) k_S_count_150 rfl (by first | rfl | decide | assumption) ?_))
        | refine T_getR (pc1 := 64) (pc := 61) k_S_count_61 rfl f_S_10 rfl (by first | assumption | exact ga G (by decide) rfl | exact lgA LG (by omega)) (by first | assumption | exact gr G (by decide) rfl | exact lgR LG (by omega)) ?_
        | refine T_getV (pc1 := 67) (pc := 64) k_S_count_64 rfl f_S_82 rfl (by first | assumption | exact ga G (by decide) rfl | exact lgA LG (by omega)) (by first | assumption | (simp (disch := omega) only [pI_eq, pI_row, pI_col, va_up_self, va_up_ne, ne_eq, not_false_eq_true] <;> rfl) | rfl) ?_
        | refine T_retI (pc := 67) k_S_count_67 rfl (by first | rfl | decide | assumption) ?_
        | refine T_getR (pc1 := 72) (pc := 69) k_S_count_69 rfl f_S_10 rfl (by first | assumption | exact ga G (by decide) rfl | exact lgA LG (by omega)) (by first | assumption | exact gr G (by decide) rfl | exact lgR LG (by omega)) ?_
        | refine T_getV (pc1 := 75) (pc := 72) k_S_count_72 rfl f_S_245 rfl (by first | assumption | exact ga G (by decide) rfl | exact lgA LG (by omega)) (by first | assumption | (simp (disch := omega) only [pI_eq, pI_row, pI_col, va_up_self, va_up_ne, ne_eq, not_false_eq_true] <;> rfl) | rfl) ?_
        | refine T_retI (pc := 75) k_S_count_75 rfl (by first | rfl | decide | assumption) ?_
        | refine T_getR (pc1 := 80) (pc := 77) k_S_count_77 rfl f_S_10 rfl (by first | assumption | exact ga G (by decide) rfl | exact lgA LG (by omega)) (by first | assumption | exact gr G (by decide) rfl | exact lgR LG (by omega)) ?_
        | refine T_getV (pc1 := 83) (pc := 80) k_S_count_80 rfl f_S_242 rfl (by first | assumption | exact ga G (by decide) rfl | exact lgA LG (by omega)) (by first | assumption | (simp (disch := omega) only [pI_eq, pI_row, pI_col, va_up_self, va_up_ne, ne_eq, not_false_eq_true] <;> rfl) | rfl) ?_
        | refine T_retI (pc := 83) k_S_count_83 rfl (by first | rfl | decide | assumption) ?_
        | refine T_getR (pc1 := 88) (pc := 85) k_S_count_85 rfl f_S_10 rfl (by first | assumption | exact ga G (by decide) rfl | exact lgA LG (by omega)) (by first | assumption | exact gr G (by decide) rfl | exact lgR LG (by omega)) ?_
        | refine T_getV (pc1 := 91) (pc := 88) k_S_count_88 rfl f_S_121 rfl (by first | assumption | exact ga G (by decide) rfl | exact lgA LG (by omega)) (by first | assumption | (simp (disch := omega) only [pI_eq, pI_row, pI_col, va_up_self, va_up_ne, ne_eq, not_false_eq_true] <;> rfl) | rfl) ?_
        | refine T_retI (pc := 91) k_S_count_91 rfl (by first | rfl | decide | assumption) ?_
        | refine T_getR (pc1 := 96) (pc := 93) k_S_count_93 rfl f_S_10 rfl (by first | assumption | exact ga G (by decide) rfl | exact lgA LG (by omega)) (by first | assumption | exact gr G (by decide) rfl | exact lgR LG (by omega)) ?_
        | refine T_getV (pc1 := 99) (pc := 96) k_S_count_96 rfl f_S_149 rfl (by first | assumption | exact ga G (by decide) rfl | exact lgA LG (by omega)) (by first | assumption | (simp (disch := omega) only [pI_eq, pI_row, pI_col, va_up_self, va_up_ne, ne_eq, not_false_eq_true] <;> rfl) | rfl) ?_
        | refine T_retI (pc := 99) k_S_count_99 rfl (by first | rfl | decide | assumption) ?_
        | refine T_getR (pc1 := 104) (pc := 101) k_S_count_101 rfl f_S_10 rfl (by first | assumption | exact ga G (by decide) rfl | exact lgA LG (by omega)) (by first | assumption | exact gr G (by decide) rfl | exact lgR LG (by omega)) ?_
        | (refine T_cV (As := []) (d1 := 1) (pc1 := 107) (pc := 104) k_S_count_104 rfl (by decide) (Nat.le_of_ble_eq_true rfl) rfl o_La_troddenInAll l_S_344 rfl (by first | assumption | exact ga G (by decide) rfl | exact lgA LG (by omega)) rfl (c_La_troddenInAll LG ok LB ?_) <;> try dsimp only [psh])
        | refine T_retI (pc := 107) k_S_count_107 rfl (by first | rfl | decide | assumption) ?_
        | refine T_getR (pc1 := 112) (pc := 109) k_S_count_109 rfl f_S_10 rfl (by first | assumption | exact ga G (by decide) rfl | exact lgA LG (by omega)) (by first | assumption | exact gr G (by decide) rfl | exact lgR LG (by omega)) ?_
        | (refine T_cV (As := []) (d1 := 1) (pc1 := 115) (pc := 112) k_S_count_112 rfl (by decide) (Nat.le_of_ble_eq_true rfl) rfl o_La_saidInAll l_S_190 rfl (by first | assumption | exact ga G (by decide) rfl | exact lgA LG (by omega)) rfl (c_La_saidInAll LG ok LB ?_) <;> try dsimp only [psh])
        | refine T_retI (pc := 115) k_S_count_115 rfl (by first | rfl | decide | assumption) ?_
        | refine T_getR (pc1 := 120) (pc := 117) k_S_count_117 rfl f_S_10 rfl (by first | assumption | exact ga G (by decide) rfl | exact lgA LG (by omega)) (by first | assumption | exact gr G (by decide) rfl | exact lgR LG (by omega)) ?_
        | refine T_getV (pc1 := 123) (pc := 120) k_S_count_120 rfl f_S_273 rfl (by first | assumption | exact ga G (by decide) rfl | exact lgA LG (by omega)) (by first | assumption | (simp (disch := omega) only [pI_eq, pI_row, pI_col, va_up_self, va_up_ne, ne_eq, not_false_eq_true] <;> rfl) | rfl) ?_
        | refine T_retI (pc := 123) k_S_count_123 rfl (by first | rfl | decide | assumption) ?_
        | refine T_getV (pc1 := 128) (pc := 125) k_S_count_125 rfl f_S_63 rfl (by first | assumption | exact ga G (by decide) rfl | exact lgA LG (by omega)) (by first | assumption | (simp (disch := omega) only [pI_eq, pI_row, pI_col, va_up_self, va_up_ne, ne_eq, not_false_eq_true] <;> rfl) | rfl) ?_
        | refine T_retI (pc := 128) k_S_count_128 rfl (by first | rfl | decide | assumption) ?_
        | refine T_getR (pc1 := 133) (pc := 130) k_S_count_130 rfl f_S_43 rfl (by first | assumption | exact ga G (by decide) rfl | exact lgA LG (by omega)) (by first | assumption | exact gr G (by decide) rfl | exact lgR LG (by omega)) ?_
        | refine T_getR (pc1 := 136) (pc := 133) k_S_count_133 rfl f_S_253 rfl (by first | assumption | exact ga G (by decide) rfl | exact lgA LG (by omega)) (by first | assumption | exact gr G (by decide) rfl | exact lgR LG (by omega)) ?_
        | refine T_getV (pc1 := 139) (pc := 136) k_S_count_136 rfl f_S_266 rfl (by first | assumption | exact ga G (by decide) rfl | exact lgA LG (by omega)) (by first | assumption | (simp (disch := omega) only [pI_eq, pI_row, pI_col, va_up_self, va_up_ne, ne_eq, not_false_eq_true] <;> rfl) | rfl) ?_
        | refine T_retI (pc := 139) k_S_count_139 rfl (by first | rfl | decide | assumption) ?_
        | refine T_getR (pc1 := 144) (pc := 141) k_S_count_141 rfl f_S_10 rfl (by first | assumption | exact ga G (by decide) rfl | exact lgA LG (by omega)) (by first | assumption | exact gr G (by decide) rfl | exact lgR LG (by omega)) ?_
        | refine T_getV (pc1 := 147) (pc := 144) k_S_count_144 rfl f_S_161 rfl (by first | assumption | exact ga G (by decide) rfl | exact lgA LG (by omega)) (by first | assumption | (simp (disch := omega) only [pI_eq, pI_row, pI_col, va_up_self, va_up_ne, ne_eq, not_false_eq_true] <;> rfl) | rfl) ?_
        | refine T_retI (pc := 147) k_S_count_147 rfl (by first | rfl | decide | assumption) ?_
        | refine T_retI (pc := 150) k_S_count_150 rfl (by first | rfl | decide | assumption) ?_)
      first | exact kk _ rfl | exact kk _ n5.symm | exact kk _ n6.symm
  · rw [count_bad hv] at kk
    refine T_iload_n (pc1 := 1) (pc := 0) k_S_count_0 rfl rfl ?_
    refine sw_S_count_1 (fun hc => ?_) (fun hc => ?_) (fun hc => ?_) (fun hc => ?_) (fun hc => ?_) (fun hc => ?_) (fun hc => ?_) (fun hc => ?_) (fun hc => ?_) (fun hc => ?_) (fun hc => ?_) (fun hc => ?_)
    all_goals first | (exfalso; exact hv ⟨by omega, by omega⟩) | skip
    repeat' (first
      | (refine T_ldc (v := (-1000000001)) (pc1 := 150) (pc := 148) k_S_count_148 rfl c_S_81 ?_ <;> try (refine T_retI (pc := 150) k_S_count_150 rfl (by first | rfl | decide | assumption) ?_))
      | refine T_retI (pc := 150) k_S_count_150 rfl (by first | rfl | decide | assumption) ?_)
    exact kk _ rfl
theorem c_S_textTold {N : Row} {n tn : Nat} {t w : Int32} (G : GeoOK g) (ok : okL N n tn) (hL : LaR g I 1 N n tn) (kk : ∀ r, r = textToldA N tn t w → K (some (.int r)) g I) : Cl 3 M_S_textTold [.ref 0, .int t, .int w] g I K := by
  show Rl 3 M_S_textTold 0 [some (.ref 0), some (.int t), some (.int w), none] [] g I K
  have LG := land_1 G
  have t14 := ok.2.2.2.1
  unfold textToldA at kk
  repeat' (first
    | ((first | refine T_aload_n (pc1 := 1) (pc := 0) k_S_textTold_0 rfl rfl ?_ | refine T_aload_nN (pc1 := 1) (pc := 0) k_S_textTold_0 rfl rfl ?_) <;> try (refine T_getR (pc1 := 4) (pc := 1) k_S_textTold_1 rfl f_S_10 rfl (by first | assumption | exact ga G (by decide) rfl | exact lgA LG (by omega)) (by first | assumption | exact gr G (by decide) rfl | exact lgR LG (by omega)) ?_ <;> try (refine T_iload_n (pc1 := 5) (pc := 4) k_S_textTold_4 rfl rfl ?_ <;> try ((refine T_cV (As := [_]) (d1 := 2) (pc1 := 8) (pc := 5) k_S_textTold_5 rfl (by decide) (Nat.le_of_ble_eq_true rfl) rfl o_La_textAt l_S_284 rfl (by first | assumption | exact ga G (by decide) rfl | exact lgA LG (by omega)) rfl (c_La_textAt LG ok hL.1 (fun hv => ?_) (fun j q hv hj hx => ?_)) <;> try dsimp only [psh])))))
    | refine T_getR (pc1 := 4) (pc := 1) k_S_textTold_1 rfl f_S_10 rfl (by first | assumption | exact ga G (by decide) rfl | exact lgA LG (by omega)) (by first | assumption | exact gr G (by decide) rfl | exact lgR LG (by omega)) ?_
    | refine T_iload_n (pc1 := 5) (pc := 4) k_S_textTold_4 rfl rfl ?_
    | (refine T_cV (As := [_]) (d1 := 2) (pc1 := 8) (pc := 5) k_S_textTold_5 rfl (by decide) (Nat.le_of_ble_eq_true rfl) rfl o_La_textAt l_S_284 rfl (by first | assumption | exact ga G (by decide) rfl | exact lgA LG (by omega)) rfl (c_La_textAt LG ok hL.1 (fun hv => ?_) (fun j q hv hj hx => ?_)) <;> try dsimp only [psh]))
  · rw [if_neg (fun q => hv q.1)] at kk
    have kk := kk _ rfl
    repeat' (first
      | ((first | refine T_astore_n (pc1 := 9) (pc := 8) k_S_textTold_8 rfl (Nat.le_of_ble_eq_true rfl) ?_ | refine T_astore_nN (pc1 := 9) (pc := 8) k_S_textTold_8 rfl (Nat.le_of_ble_eq_true rfl) ?_) <;> try ((first | refine T_aload_n (pc1 := 10) (pc := 9) k_S_textTold_9 rfl rfl ?_ | refine T_aload_nN (pc1 := 10) (pc := 9) k_S_textTold_9 rfl rfl ?_) <;> try ((first | refine T_ifnonnull (tgt := 16) (pc := 10) k_S_textTold_10 rfl ?_ | refine T_ifnonnullN (pc1 := 13) (pc := 10) k_S_textTold_10 rfl ?_))))
      | (refine T_ldc (v := (-1000000001)) (pc1 := 15) (pc := 13) k_S_textTold_13 rfl c_S_81 ?_ <;> try (refine T_retI (pc := 15) k_S_textTold_15 rfl (by first | rfl | decide | assumption) ?_))
      | refine T_aload_n (pc1 := 10) (pc := 9) k_S_textTold_9 rfl rfl ?_
      | refine T_aload_nN (pc1 := 10) (pc := 9) k_S_textTold_9 rfl rfl ?_
      | refine T_ifnonnull (tgt := 16) (pc := 10) k_S_textTold_10 rfl ?_
      | refine T_ifnonnullN (pc1 := 13) (pc := 10) k_S_textTold_10 rfl ?_
      | refine T_retI (pc := 15) k_S_textTold_15 rfl (by first | rfl | decide | assumption) ?_)
    exact kk
  · subst hv
    obtain ⟨-, -, x3, -, -, x6, x7, -⟩ := id hx
    by_cases hw : rg 2 w
    · obtain ⟨p, hp, rfl⟩ := rg_of hw (by omega)
      rw [if_pos ⟨rg_nI hj (by omega), hw⟩, nI_clamp (by omega), nI_clamp (by omega)] at kk
      have z7 : I q 1 = N (156 + 100 * j + 1) := by rw [x7]; congr 1; omega
      obtain rfl | rfl : p = 0 ∨ p = 1 := by omega
      all_goals
        repeat' (first
          | ((first | refine T_astore_n (pc1 := 9) (pc := 8) k_S_textTold_8 rfl (Nat.le_of_ble_eq_true rfl) ?_ | refine T_astore_nN (pc1 := 9) (pc := 8) k_S_textTold_8 rfl (Nat.le_of_ble_eq_true rfl) ?_) <;> try ((first | refine T_aload_n (pc1 := 10) (pc := 9) k_S_textTold_9 rfl rfl ?_ | refine T_aload_nN (pc1 := 10) (pc := 9) k_S_textTold_9 rfl rfl ?_) <;> try ((first | refine T_ifnonnull (tgt := 16) (pc := 10) k_S_textTold_10 rfl ?_ | refine T_ifnonnullN (pc1 := 13) (pc := 10) k_S_textTold_10 rfl ?_))))
          | (refine T_ldc (v := (-1000000001)) (pc1 := 15) (pc := 13) k_S_textTold_13 rfl c_S_81 ?_ <;> try (refine T_retI (pc := 15) k_S_textTold_15 rfl (by first | rfl | decide | assumption) ?_))
          | (refine T_iload_n (pc1 := 17) (pc := 16) k_S_textTold_16 rfl rfl ?_)
          | ((first | (with_reducible refine swN_S_textTold_17 (by omega) (fun hc => ?_) (fun hc => ?_) (fun hc => ?_) <;> first | (exfalso; omega) | skip) | refine sw_S_textTold_17 (fun hc => ?_) (fun hc => ?_) (fun hc => ?_)))
          | ((first | refine T_aload_n (pc1 := 45) (pc := 44) k_S_textTold_44 rfl rfl ?_ | refine T_aload_nN (pc1 := 45) (pc := 44) k_S_textTold_44 rfl rfl ?_) <;> try (refine T_getV (pc1 := 48) (pc := 45) k_S_textTold_45 rfl f_S_287 rfl (by first | assumption | exact ga G (by decide) rfl | exact lgA LG (by omega)) (by first | assumption | (simp (disch := omega) only [pI_eq, pI_row, pI_col, va_up_self, va_up_ne, ne_eq, not_false_eq_true] <;> rfl) | rfl) ?_ <;> try (refine T_retI (pc := 48) k_S_textTold_48 rfl (by first | rfl | decide | assumption) ?_)))
          | ((first | refine T_aload_n (pc1 := 50) (pc := 49) k_S_textTold_49 rfl rfl ?_ | refine T_aload_nN (pc1 := 50) (pc := 49) k_S_textTold_49 rfl rfl ?_) <;> try (refine T_getV (pc1 := 53) (pc := 50) k_S_textTold_50 rfl f_S_290 rfl (by first | assumption | exact ga G (by decide) rfl | exact lgA LG (by omega)) (by first | assumption | (simp (disch := omega) only [pI_eq, pI_row, pI_col, va_up_self, va_up_ne, ne_eq, not_false_eq_true] <;> rfl) | rfl) ?_ <;> try (refine T_retI (pc := 53) k_S_textTold_53 rfl (by first | rfl | decide | assumption) ?_)))
          | (refine T_ldc (v := (-1000000001)) (pc1 := 56) (pc := 54) k_S_textTold_54 rfl c_S_81 ?_ <;> try (refine T_retI (pc := 56) k_S_textTold_56 rfl (by first | rfl | decide | assumption) ?_))
          | refine T_aload_n (pc1 := 10) (pc := 9) k_S_textTold_9 rfl rfl ?_
          | refine T_aload_nN (pc1 := 10) (pc := 9) k_S_textTold_9 rfl rfl ?_
          | refine T_ifnonnull (tgt := 16) (pc := 10) k_S_textTold_10 rfl ?_
          | refine T_ifnonnullN (pc1 := 13) (pc := 10) k_S_textTold_10 rfl ?_
          | refine T_retI (pc := 15) k_S_textTold_15 rfl (by first | rfl | decide | assumption) ?_
          | refine T_getV (pc1 := 48) (pc := 45) k_S_textTold_45 rfl f_S_287 rfl (by first | assumption | exact ga G (by decide) rfl | exact lgA LG (by omega)) (by first | assumption | (simp (disch := omega) only [pI_eq, pI_row, pI_col, va_up_self, va_up_ne, ne_eq, not_false_eq_true] <;> rfl) | rfl) ?_
          | refine T_retI (pc := 48) k_S_textTold_48 rfl (by first | rfl | decide | assumption) ?_
          | refine T_getV (pc1 := 53) (pc := 50) k_S_textTold_50 rfl f_S_290 rfl (by first | assumption | exact ga G (by decide) rfl | exact lgA LG (by omega)) (by first | assumption | (simp (disch := omega) only [pI_eq, pI_row, pI_col, va_up_self, va_up_ne, ne_eq, not_false_eq_true] <;> rfl) | rfl) ?_
          | refine T_retI (pc := 53) k_S_textTold_53 rfl (by first | rfl | decide | assumption) ?_
          | refine T_retI (pc := 56) k_S_textTold_56 rfl (by first | rfl | decide | assumption) ?_)
        exact kk _ rfl
    · rw [if_neg (fun q => hw q.2)] at kk
      have kk := kk _ rfl
      repeat' (first
        | ((first | refine T_astore_n (pc1 := 9) (pc := 8) k_S_textTold_8 rfl (Nat.le_of_ble_eq_true rfl) ?_ | refine T_astore_nN (pc1 := 9) (pc := 8) k_S_textTold_8 rfl (Nat.le_of_ble_eq_true rfl) ?_) <;> try ((first | refine T_aload_n (pc1 := 10) (pc := 9) k_S_textTold_9 rfl rfl ?_ | refine T_aload_nN (pc1 := 10) (pc := 9) k_S_textTold_9 rfl rfl ?_) <;> try ((first | refine T_ifnonnull (tgt := 16) (pc := 10) k_S_textTold_10 rfl ?_ | refine T_ifnonnullN (pc1 := 13) (pc := 10) k_S_textTold_10 rfl ?_))))
        | (refine T_ldc (v := (-1000000001)) (pc1 := 15) (pc := 13) k_S_textTold_13 rfl c_S_81 ?_ <;> try (refine T_retI (pc := 15) k_S_textTold_15 rfl (by first | rfl | decide | assumption) ?_))
        | (refine T_iload_n (pc1 := 17) (pc := 16) k_S_textTold_16 rfl rfl ?_)
        | refine T_aload_n (pc1 := 10) (pc := 9) k_S_textTold_9 rfl rfl ?_
        | refine T_aload_nN (pc1 := 10) (pc := 9) k_S_textTold_9 rfl rfl ?_
        | refine T_ifnonnull (tgt := 16) (pc := 10) k_S_textTold_10 rfl ?_
        | refine T_ifnonnullN (pc1 := 13) (pc := 10) k_S_textTold_10 rfl ?_
        | refine T_retI (pc := 15) k_S_textTold_15 rfl (by first | rfl | decide | assumption) ?_)
      refine sw_S_textTold_17 (fun hc => ?_) (fun hc => ?_) (fun hc => ?_)
      · exfalso; exact hw ⟨by omega, by omega⟩
      · exfalso; exact hw ⟨by omega, by omega⟩
      · repeat' (first
          | (refine T_ldc (v := (-1000000001)) (pc1 := 56) (pc := 54) k_S_textTold_54 rfl c_S_81 ?_ <;> try (refine T_retI (pc := 56) k_S_textTold_56 rfl (by first | rfl | decide | assumption) ?_))
          | refine T_retI (pc := 56) k_S_textTold_56 rfl (by first | rfl | decide | assumption) ?_)
        exact kk
theorem c_S_why {N : Row} {n tn : Nat} {k : Int32} (G : GeoOK g) (hL : LaR g I 1 N n tn) (kk : ∀ r, r = whyA N tn k → K (some (.int r)) g I) : Cl 2 M_S_why [.ref 0, .int k] g I K := by
  show Rl 2 M_S_why 0 [some (.ref 0), some (.int k)] [] g I K
  have LG := land_1 G
  have e0 : (nI 0).toInt = 0 := rfl
  have e2 : (nI 2).toInt = 2 := rfl
  unfold whyA at kk
  by_cases h : rg 3 k
  · rw [if_pos h] at kk
    obtain ⟨q, hq, rfl⟩ := rg_of h (by omega)
    rw [nI_clamp (by omega)] at kk
    have v := hL.1.1 q hq
    have v : I 4 q = oNo (txt N q tn) := v
    have h1 := h.1
    have h2 := h.2
    repeat' (first
      | (refine T_iload_n (pc1 := 1) (pc := 0) k_S_why_0 rfl rfl ?_ <;> try (refine T_iconst (v := (nI 0)) (pc1 := 2) (pc := 1) k_S_why_1 rfl (by decide) ?_ <;> try (refine T_iconst (v := (nI 2)) (pc1 := 3) (pc := 2) k_S_why_2 rfl (by decide) ?_ <;> try ((refine T_cS (As := [_, _, _]) (d1 := 1) (pc1 := 6) (pc := 3) k_S_why_3 rfl (by decide) (Nat.le_of_ble_eq_true rfl) rfl o_S_isWithin l_S_77 rfl (c_S_isWithin (fun hw => ?_) (fun hw => ?_)) <;> try dsimp only [psh]) <;> try ((first | (with_reducible refine T_if_eqN (tgt := 21) (pc1 := 9) (pc := 6) k_S_why_6 (by decide) (by decide) (by omega) (fun hc => ?_) (fun hc => ?_) <;> first | (exfalso; omega) | skip) | refine T_if_eq_t (tgt := 21) (pc := 6) k_S_why_6 rfl (by decide) ?_ | refine T_if_eq_f (tgt := 21) (pc1 := 9) (pc := 6) k_S_why_6 rfl rfl (by decide) ?_ | refine T_if_eq (tgt := 21) (pc1 := 9) (pc := 6) k_S_why_6 rfl rfl (fun hc => ?_) (fun hc => ?_)))))))
      | ((first | refine T_aload_n (pc1 := 10) (pc := 9) k_S_why_9 rfl rfl ?_ | refine T_aload_nN (pc1 := 10) (pc := 9) k_S_why_9 rfl rfl ?_) <;> try (refine T_getR (pc1 := 13) (pc := 10) k_S_why_10 rfl f_S_10 rfl (by first | assumption | exact ga G (by decide) rfl | exact lgA LG (by omega)) (by first | assumption | exact gr G (by decide) rfl | exact lgR LG (by omega)) ?_ <;> try (refine T_getR (pc1 := 16) (pc := 13) k_S_why_13 rfl f_S_293 rfl (by first | assumption | exact ga G (by decide) rfl | exact lgA LG (by omega)) (by first | assumption | exact gr G (by decide) rfl | exact lgR LG (by omega)) ?_ <;> try (refine T_iload_n (pc1 := 17) (pc := 16) k_S_why_16 rfl rfl ?_ <;> try ((first | refine T_ialdN (pc1 := 18) (pc := 17) k_S_why_17 rfl (by first | assumption | exact ga G (by decide) rfl | exact lgA LG (by omega)) (by omega) (by omega) (by first | assumption | (simp (disch := omega) only [pI_eq, pI_row, pI_col, va_up_self, va_up_ne, ne_eq, not_false_eq_true] <;> rfl) | rfl) ?_ | refine T_iald (pc1 := 18) (pc := 17) k_S_why_17 rfl (by first | assumption | exact ga G (by decide) rfl | exact lgA LG (by omega)) (by assumption) ?_) <;> try (refine T_goto (tgt := 23) (pc := 18) k_S_why_18 rfl ?_))))))
      | (refine T_ldc (v := (-1000000001)) (pc1 := 23) (pc := 21) k_S_why_21 rfl c_S_81 ?_)
      | (refine T_retI (pc := 23) k_S_why_23 rfl (by first | rfl | decide | assumption) ?_)
      | refine T_iconst (v := (nI 0)) (pc1 := 2) (pc := 1) k_S_why_1 rfl (by decide) ?_
      | refine T_iconst (v := (nI 2)) (pc1 := 3) (pc := 2) k_S_why_2 rfl (by decide) ?_
      | (refine T_cS (As := [_, _, _]) (d1 := 1) (pc1 := 6) (pc := 3) k_S_why_3 rfl (by decide) (Nat.le_of_ble_eq_true rfl) rfl o_S_isWithin l_S_77 rfl (c_S_isWithin (fun hw => ?_) (fun hw => ?_)) <;> try dsimp only [psh])
      | (with_reducible refine T_if_eqN (tgt := 21) (pc1 := 9) (pc := 6) k_S_why_6 (by decide) (by decide) (by omega) (fun hc => ?_) (fun hc => ?_) <;> first | (exfalso; omega) | skip)
      | refine T_if_eq_t (tgt := 21) (pc := 6) k_S_why_6 rfl (by decide) ?_
      | refine T_if_eq_f (tgt := 21) (pc1 := 9) (pc := 6) k_S_why_6 rfl rfl (by decide) ?_
      | refine T_if_eq (tgt := 21) (pc1 := 9) (pc := 6) k_S_why_6 rfl rfl (fun hc => ?_) (fun hc => ?_)
      | refine T_getR (pc1 := 13) (pc := 10) k_S_why_10 rfl f_S_10 rfl (by first | assumption | exact ga G (by decide) rfl | exact lgA LG (by omega)) (by first | assumption | exact gr G (by decide) rfl | exact lgR LG (by omega)) ?_
      | refine T_getR (pc1 := 16) (pc := 13) k_S_why_13 rfl f_S_293 rfl (by first | assumption | exact ga G (by decide) rfl | exact lgA LG (by omega)) (by first | assumption | exact gr G (by decide) rfl | exact lgR LG (by omega)) ?_
      | refine T_iload_n (pc1 := 17) (pc := 16) k_S_why_16 rfl rfl ?_
      | refine T_ialdN (pc1 := 18) (pc := 17) k_S_why_17 rfl (by first | assumption | exact ga G (by decide) rfl | exact lgA LG (by omega)) (by omega) (by omega) (by first | assumption | (simp (disch := omega) only [pI_eq, pI_row, pI_col, va_up_self, va_up_ne, ne_eq, not_false_eq_true] <;> rfl) | rfl) ?_
      | refine T_iald (pc1 := 18) (pc := 17) k_S_why_17 rfl (by first | assumption | exact ga G (by decide) rfl | exact lgA LG (by omega)) (by assumption) ?_
      | refine T_goto (tgt := 23) (pc := 18) k_S_why_18 rfl ?_)
    all_goals first | exact kk _ rfl | (exfalso; apply hw; constructor <;> omega)
  · rw [if_neg h] at kk
    have kk := kk _ rfl
    repeat' (first
      | (refine T_iload_n (pc1 := 1) (pc := 0) k_S_why_0 rfl rfl ?_ <;> try (refine T_iconst (v := (nI 0)) (pc1 := 2) (pc := 1) k_S_why_1 rfl (by decide) ?_ <;> try (refine T_iconst (v := (nI 2)) (pc1 := 3) (pc := 2) k_S_why_2 rfl (by decide) ?_ <;> try ((refine T_cS (As := [_, _, _]) (d1 := 1) (pc1 := 6) (pc := 3) k_S_why_3 rfl (by decide) (Nat.le_of_ble_eq_true rfl) rfl o_S_isWithin l_S_77 rfl (c_S_isWithin (fun hw => ?_) (fun hw => ?_)) <;> try dsimp only [psh]) <;> try ((first | (with_reducible refine T_if_eqN (tgt := 21) (pc1 := 9) (pc := 6) k_S_why_6 (by decide) (by decide) (by omega) (fun hc => ?_) (fun hc => ?_) <;> first | (exfalso; omega) | skip) | refine T_if_eq_t (tgt := 21) (pc := 6) k_S_why_6 rfl (by decide) ?_ | refine T_if_eq_f (tgt := 21) (pc1 := 9) (pc := 6) k_S_why_6 rfl rfl (by decide) ?_ | refine T_if_eq (tgt := 21) (pc1 := 9) (pc := 6) k_S_why_6 rfl rfl (fun hc => ?_) (fun hc => ?_)))))))
      | (refine T_ldc (v := (-1000000001)) (pc1 := 23) (pc := 21) k_S_why_21 rfl c_S_81 ?_)
      | (refine T_retI (pc := 23) k_S_why_23 rfl (by first | rfl | decide | assumption) ?_)
      | refine T_iconst (v := (nI 0)) (pc1 := 2) (pc := 1) k_S_why_1 rfl (by decide) ?_
      | refine T_iconst (v := (nI 2)) (pc1 := 3) (pc := 2) k_S_why_2 rfl (by decide) ?_
      | (refine T_cS (As := [_, _, _]) (d1 := 1) (pc1 := 6) (pc := 3) k_S_why_3 rfl (by decide) (Nat.le_of_ble_eq_true rfl) rfl o_S_isWithin l_S_77 rfl (c_S_isWithin (fun hw => ?_) (fun hw => ?_)) <;> try dsimp only [psh])
      | (with_reducible refine T_if_eqN (tgt := 21) (pc1 := 9) (pc := 6) k_S_why_6 (by decide) (by decide) (by omega) (fun hc => ?_) (fun hc => ?_) <;> first | (exfalso; omega) | skip)
      | refine T_if_eq_t (tgt := 21) (pc := 6) k_S_why_6 rfl (by decide) ?_
      | refine T_if_eq_f (tgt := 21) (pc1 := 9) (pc := 6) k_S_why_6 rfl rfl (by decide) ?_
      | refine T_if_eq (tgt := 21) (pc1 := 9) (pc := 6) k_S_why_6 rfl rfl (fun hc => ?_) (fun hc => ?_))
    all_goals first | exact kk | (exfalso; apply h; constructor <;> omega)
theorem c_Ta_addFour {z : Nat} {v : Int32} (G : GeoOK g) (hz : I 67 1 = nI z) (h96 : z + 4 ≤ 96) (kk : ∀ J, eqx [67, 68] I J → J 68 = lay4 (I 68) z v → J 67 1 = nI (z + 4) → K none g J) : Cl 1 M_Ta_addFour [.ref 67, .int v] g I K := by
  show Rl 1 M_Ta_addFour 0 [some (.ref 67), some (.int v), none] [] g I K
  repeat' (first
    | (refine T_bipush (v := (nI 24)) (pc1 := 2) (pc := 0) k_Ta_addFour_0 rfl (by decide) ?_ <;> try (refine T_istore_n (pc1 := 3) (pc := 2) k_Ta_addFour_2 rfl (Nat.le_of_ble_eq_true rfl) ?_))
    | (refine T_iload_n (pc1 := 4) (pc := 3) k_Ta_addFour_3 rfl rfl ?_ <;> try ((first | (with_reducible refine T_if_ltN (tgt := 48) (pc1 := 7) (pc := 4) k_Ta_addFour_4 (by decide) (by decide) (by omega) ?_ <;> first | (exfalso; omega) | skip) | refine T_if_lt_t (tgt := 48) (pc := 4) k_Ta_addFour_4 rfl (by decide) ?_ | refine T_if_lt_f (tgt := 48) (pc1 := 7) (pc := 4) k_Ta_addFour_4 rfl rfl (by decide) ?_ | refine T_if_lt (tgt := 48) (pc1 := 7) (pc := 4) k_Ta_addFour_4 rfl rfl (fun hc => ?_) (fun hc => ?_))))
    | ((first | refine T_aload_n (pc1 := 8) (pc := 7) k_Ta_addFour_7 rfl rfl ?_ | refine T_aload_nN (pc1 := 8) (pc := 7) k_Ta_addFour_7 rfl rfl ?_) <;> try (refine T_getV (pc1 := 11) (pc := 8) k_Ta_addFour_8 rfl f_Ta_15 rfl (by first | assumption | exact ga G (by decide) rfl | exact lgA LG (by omega)) (by first | assumption | (simp (disch := omega) only [pI_eq, pI_row, pI_col, va_up_self, va_up_ne, ne_eq, not_false_eq_true, hz] <;> rfl) | rfl) ?_ <;> try (refine T_bipush (v := (nI 96)) (pc1 := 13) (pc := 11) k_Ta_addFour_11 rfl (by decide) ?_ <;> try ((first | (with_reducible refine T_icmp_geN (tgt := 48) (pc1 := 16) (pc := 13) k_Ta_addFour_13 (by decide) (by decide) (by omega) (by omega) (fun hc => ?_) (fun hc => ?_) <;> first | (exfalso; omega) | skip) | refine T_icmp_ge_t (tgt := 48) (pc := 13) k_Ta_addFour_13 rfl (by decide) ?_ | refine T_icmp_ge_f (tgt := 48) (pc1 := 16) (pc := 13) k_Ta_addFour_13 rfl rfl (by decide) ?_ | refine T_icmp_ge (tgt := 48) (pc1 := 16) (pc := 13) k_Ta_addFour_13 rfl rfl (fun hc => ?_) (fun hc => ?_))))))
    | ((first | refine T_aload_n (pc1 := 17) (pc := 16) k_Ta_addFour_16 rfl rfl ?_ | refine T_aload_nN (pc1 := 17) (pc := 16) k_Ta_addFour_16 rfl rfl ?_) <;> try (refine T_getR (pc1 := 20) (pc := 17) k_Ta_addFour_17 rfl f_Ta_9 rfl (by first | assumption | exact ga G (by decide) rfl | exact lgA LG (by omega)) (by first | assumption | exact gr G (by decide) rfl | exact lgR LG (by omega)) ?_ <;> try ((first | refine T_aload_n (pc1 := 21) (pc := 20) k_Ta_addFour_20 rfl rfl ?_ | refine T_aload_nN (pc1 := 21) (pc := 20) k_Ta_addFour_20 rfl rfl ?_) <;> try (refine T_getV (pc1 := 24) (pc := 21) k_Ta_addFour_21 rfl f_Ta_15 rfl (by first | assumption | exact ga G (by decide) rfl | exact lgA LG (by omega)) (by first | assumption | (simp (disch := omega) only [pI_eq, pI_row, pI_col, va_up_self, va_up_ne, ne_eq, not_false_eq_true, hz] <;> rfl) | rfl) ?_ <;> try (refine T_iload_n (pc1 := 25) (pc := 24) k_Ta_addFour_24 rfl rfl ?_ <;> try (refine T_iload_n (pc1 := 26) (pc := 25) k_Ta_addFour_25 rfl rfl ?_ <;> try (refine T_iushr (pc1 := 27) (pc := 26) k_Ta_addFour_26 rfl ?_ <;> try (refine T_sipush (v := (nI 255)) (pc1 := 30) (pc := 27) k_Ta_addFour_27 rfl (by decide) ?_ <;> try ((refine T_iand (pc1 := 31) (pc := 30) k_Ta_addFour_30 rfl ?_; first | rw [bytU v _ 24 (by decide)] | rw [bytU v _ 16 (by decide)] | rw [bytU v _ 8 (by decide)] | rw [bytU v _ 0 (by decide)]) <;> try (refine T_iastN (pc1 := 32) (pc := 31) k_Ta_addFour_31 rfl (by first | assumption | exact ga G (by decide) rfl | exact lgA LG (by omega)) (by omega) (by omega) ?_ <;> try ((first | refine T_aload_n (pc1 := 33) (pc := 32) k_Ta_addFour_32 rfl rfl ?_ | refine T_aload_nN (pc1 := 33) (pc := 32) k_Ta_addFour_32 rfl rfl ?_) <;> try (refine T_dup (pc1 := 34) (pc := 33) k_Ta_addFour_33 rfl rfl ?_ <;> try (refine T_getV (pc1 := 37) (pc := 34) k_Ta_addFour_34 rfl f_Ta_15 rfl (by first | assumption | exact ga G (by decide) rfl | exact lgA LG (by omega)) (by first | assumption | (simp (disch := omega) only [pI_eq, pI_row, pI_col, va_up_self, va_up_ne, ne_eq, not_false_eq_true, hz] <;> rfl) | rfl) ?_ <;> try (refine T_iconst (v := (nI 1)) (pc1 := 38) (pc := 37) k_Ta_addFour_37 rfl (by decide) ?_))))))))))))))
    | ((first | with_reducible refine T_iaddN (pc1 := 39) (pc := 38) k_Ta_addFour_38 (by decide) ?_ | refine T_iadd (pc1 := 39) (pc := 38) k_Ta_addFour_38 rfl ?_) <;> try (refine T_putI (pc1 := 42) (pc := 39) k_Ta_addFour_39 rfl f_Ta_15 rfl (by first | assumption | exact ga G (by decide) rfl | exact lgA LG (by omega)) (by first | rfl | decide | assumption) (by first | rfl | decide | assumption) ?_ <;> try ((refine T_iinc (v := (-8)) (pc1 := 45) (pc := 42) k_Ta_addFour_42 rfl rfl (by decide) ?_; first | rw [show nI 24 + (-8 : Int32) = nI 16 from by decide] | rw [show nI 16 + (-8 : Int32) = nI 8 from by decide] | rw [show nI 8 + (-8 : Int32) = nI 0 from by decide] | rw [show nI 0 + (-8 : Int32) = (-8) from by decide]) <;> try (refine T_goto (tgt := 3) (pc := 45) k_Ta_addFour_45 rfl ?_))))
    | (refine T_retV (pc := 48) k_Ta_addFour_48 rfl ?_)
    | refine T_istore_n (pc1 := 3) (pc := 2) k_Ta_addFour_2 rfl (Nat.le_of_ble_eq_true rfl) ?_
    | (with_reducible refine T_if_ltN (tgt := 48) (pc1 := 7) (pc := 4) k_Ta_addFour_4 (by decide) (by decide) (by omega) ?_ <;> first | (exfalso; omega) | skip)
    | refine T_if_lt_t (tgt := 48) (pc := 4) k_Ta_addFour_4 rfl (by decide) ?_
    | refine T_if_lt_f (tgt := 48) (pc1 := 7) (pc := 4) k_Ta_addFour_4 rfl rfl (by decide) ?_
    | refine T_if_lt (tgt := 48) (pc1 := 7) (pc := 4) k_Ta_addFour_4 rfl rfl (fun hc => ?_) (fun hc => ?_)
    | refine T_getV (pc1 := 11) (pc := 8) k_Ta_addFour_8 rfl f_Ta_15 rfl (by first | assumption | exact ga G (by decide) rfl | exact lgA LG (by omega)) (by first | assumption | (simp (disch := omega) only [pI_eq, pI_row, pI_col, va_up_self, va_up_ne, ne_eq, not_false_eq_true, hz] <;> rfl) | rfl) ?_
    | refine T_bipush (v := (nI 96)) (pc1 := 13) (pc := 11) k_Ta_addFour_11 rfl (by decide) ?_
    | (with_reducible refine T_icmp_geN (tgt := 48) (pc1 := 16) (pc := 13) k_Ta_addFour_13 (by decide) (by decide) (by omega) (by omega) (fun hc => ?_) (fun hc => ?_) <;> first | (exfalso; omega) | skip)
    | refine T_icmp_ge_t (tgt := 48) (pc := 13) k_Ta_addFour_13 rfl (by decide) ?_
    | refine T_icmp_ge_f (tgt := 48) (pc1 := 16) (pc := 13) k_Ta_addFour_13 rfl rfl (by decide) ?_
    | refine T_icmp_ge (tgt := 48) (pc1 := 16) (pc := 13) k_Ta_addFour_13 rfl rfl (fun hc => ?_) (fun hc => ?_)
    | refine T_getR (pc1 := 20) (pc := 17) k_Ta_addFour_17 rfl f_Ta_9 rfl (by first | assumption | exact ga G (by decide) rfl | exact lgA LG (by omega)) (by first | assumption | exact gr G (by decide) rfl | exact lgR LG (by omega)) ?_
    | refine T_aload_n (pc1 := 21) (pc := 20) k_Ta_addFour_20 rfl rfl ?_
    | refine T_aload_nN (pc1 := 21) (pc := 20) k_Ta_addFour_20 rfl rfl ?_
    | refine T_getV (pc1 := 24) (pc := 21) k_Ta_addFour_21 rfl f_Ta_15 rfl (by first | assumption | exact ga G (by decide) rfl | exact lgA LG (by omega)) (by first | assumption | (simp (disch := omega) only [pI_eq, pI_row, pI_col, va_up_self, va_up_ne, ne_eq, not_false_eq_true, hz] <;> rfl) | rfl) ?_
    | refine T_iload_n (pc1 := 25) (pc := 24) k_Ta_addFour_24 rfl rfl ?_
    | refine T_iload_n (pc1 := 26) (pc := 25) k_Ta_addFour_25 rfl rfl ?_
    | refine T_iushr (pc1 := 27) (pc := 26) k_Ta_addFour_26 rfl ?_
    | refine T_sipush (v := (nI 255)) (pc1 := 30) (pc := 27) k_Ta_addFour_27 rfl (by decide) ?_
    | (refine T_iand (pc1 := 31) (pc := 30) k_Ta_addFour_30 rfl ?_; first | rw [bytU v _ 24 (by decide)] | rw [bytU v _ 16 (by decide)] | rw [bytU v _ 8 (by decide)] | rw [bytU v _ 0 (by decide)])
    | refine T_iastN (pc1 := 32) (pc := 31) k_Ta_addFour_31 rfl (by first | assumption | exact ga G (by decide) rfl | exact lgA LG (by omega)) (by omega) (by omega) ?_
    | refine T_aload_n (pc1 := 33) (pc := 32) k_Ta_addFour_32 rfl rfl ?_
    | refine T_aload_nN (pc1 := 33) (pc := 32) k_Ta_addFour_32 rfl rfl ?_
    | refine T_dup (pc1 := 34) (pc := 33) k_Ta_addFour_33 rfl rfl ?_
    | refine T_getV (pc1 := 37) (pc := 34) k_Ta_addFour_34 rfl f_Ta_15 rfl (by first | assumption | exact ga G (by decide) rfl | exact lgA LG (by omega)) (by first | assumption | (simp (disch := omega) only [pI_eq, pI_row, pI_col, va_up_self, va_up_ne, ne_eq, not_false_eq_true, hz] <;> rfl) | rfl) ?_
    | refine T_iconst (v := (nI 1)) (pc1 := 38) (pc := 37) k_Ta_addFour_37 rfl (by decide) ?_
    | refine T_putI (pc1 := 42) (pc := 39) k_Ta_addFour_39 rfl f_Ta_15 rfl (by first | assumption | exact ga G (by decide) rfl | exact lgA LG (by omega)) (by first | rfl | decide | assumption) (by first | rfl | decide | assumption) ?_
    | (refine T_iinc (v := (-8)) (pc1 := 45) (pc := 42) k_Ta_addFour_42 rfl rfl (by decide) ?_; first | rw [show nI 24 + (-8 : Int32) = nI 16 from by decide] | rw [show nI 16 + (-8 : Int32) = nI 8 from by decide] | rw [show nI 8 + (-8 : Int32) = nI 0 from by decide] | rw [show nI 0 + (-8 : Int32) = (-8) from by decide])
    | refine T_goto (tgt := 3) (pc := 45) k_Ta_addFour_45 rfl ?_)
  all_goals try (exfalso; omega)
  refine kk _ (eqx_pI (eqx_pI (eqx_pI (eqx_pI (eqx_pI (eqx_pI (eqx_pI (eqx_pI eqx_rf _ (by decide)) _ (by decide)) _ (by decide)) _ (by decide)) _ (by decide)) _ (by decide)) _ (by decide)) _ (by decide)) ?_ pI_eq
  simp only [pI_self, pI_rw (show (68 : Nat) ≠ 67 by decide)]
  rfl
theorem c_Ta_room {z : Nat} (G : GeoOK g) (hz : I 67 1 = nI z) (h96 : z ≤ 96) (kk : K (some (.int (nI (96 - z)))) g I) : Cl 1 M_Ta_room [.ref 67] g I K := by
  show Rl 1 M_Ta_room 0 [some (.ref 67)] [] g I K
  repeat' (first
    | (refine T_bipush (v := (nI 96)) (pc1 := 2) (pc := 0) k_Ta_room_0 rfl (by decide) ?_ <;> try ((first | refine T_aload_n (pc1 := 3) (pc := 2) k_Ta_room_2 rfl rfl ?_ | refine T_aload_nN (pc1 := 3) (pc := 2) k_Ta_room_2 rfl rfl ?_) <;> try (refine T_getV (pc1 := 6) (pc := 3) k_Ta_room_3 rfl f_Ta_15 rfl (by first | assumption | exact ga G (by decide) rfl | exact lgA LG (by omega)) (by first | assumption | (simp (disch := omega) only [pI_eq, pI_row, pI_col, va_up_self, va_up_ne, ne_eq, not_false_eq_true] <;> rfl) | rfl) ?_ <;> try ((first | with_reducible refine T_isubN (pc1 := 7) (pc := 6) k_Ta_room_6 (by decide) (by omega) ?_ | refine T_isub (pc1 := 7) (pc := 6) k_Ta_room_6 rfl ?_) <;> try (refine T_retI (pc := 7) k_Ta_room_7 rfl (by first | rfl | decide | assumption) ?_)))))
    | refine T_aload_n (pc1 := 3) (pc := 2) k_Ta_room_2 rfl rfl ?_
    | refine T_aload_nN (pc1 := 3) (pc := 2) k_Ta_room_2 rfl rfl ?_
    | refine T_getV (pc1 := 6) (pc := 3) k_Ta_room_3 rfl f_Ta_15 rfl (by first | assumption | exact ga G (by decide) rfl | exact lgA LG (by omega)) (by first | assumption | (simp (disch := omega) only [pI_eq, pI_row, pI_col, va_up_self, va_up_ne, ne_eq, not_false_eq_true] <;> rfl) | rfl) ?_
    | with_reducible refine T_isubN (pc1 := 7) (pc := 6) k_Ta_room_6 (by decide) (by omega) ?_
    | refine T_isub (pc1 := 7) (pc := 6) k_Ta_room_6 rfl ?_
    | refine T_retI (pc := 7) k_Ta_room_7 rfl (by first | rfl | decide | assumption) ?_)
  exact kk
theorem c_S_feed {T : Row} {z : Nat} {a b c : Int32} (G : GeoOK g) (hT : CT I T z) (h96 : z ≤ 96) (kk : ∀ J r, fre tpf I J → CT J (feedT T z a b c) (feedZ z) → r = feedA z → K (some (.int r)) g J) : Cl 2 M_S_feed [.ref 0, .int a, .int b, .int c] g I K := by
  show Rl 2 M_S_feed 0 [some (.ref 0), some (.int a), some (.int b), some (.int c), none] [] g I K
  obtain ⟨h1, h2⟩ := id hT
  unfold feedT feedZ feedA at kk
  by_cases h : z + 12 ≤ 96
  · rw [if_pos h, if_pos h, if_pos h] at kk
    repeat' (first
      | ((first | refine T_aload_n (pc1 := 1) (pc := 0) k_S_feed_0 rfl rfl ?_ | refine T_aload_nN (pc1 := 1) (pc := 0) k_S_feed_0 rfl rfl ?_) <;> try (refine T_getR (pc1 := 4) (pc := 1) k_S_feed_1 rfl f_S_43 rfl (by first | assumption | exact ga G (by decide) rfl | exact lgA LG (by omega)) (by first | assumption | exact gr G (by decide) rfl | exact lgR LG (by omega)) ?_ <;> try (refine T_getR (pc1 := 7) (pc := 4) k_S_feed_4 rfl f_S_253 rfl (by first | assumption | exact ga G (by decide) rfl | exact lgA LG (by omega)) (by first | assumption | exact gr G (by decide) rfl | exact lgR LG (by omega)) ?_ <;> try ((first | refine T_astore (pc1 := 9) (pc := 7) k_S_feed_7 rfl (Nat.le_of_ble_eq_true rfl) ?_ | refine T_astoreN (pc1 := 9) (pc := 7) k_S_feed_7 rfl (Nat.le_of_ble_eq_true rfl) ?_) <;> try ((first | refine T_aload (pc1 := 11) (pc := 9) k_S_feed_9 rfl rfl ?_ | refine T_aloadN (pc1 := 11) (pc := 9) k_S_feed_9 rfl rfl ?_) <;> try ((refine T_cV (As := []) (d1 := 1) (pc1 := 14) (pc := 11) k_S_feed_11 rfl (by decide) (Nat.le_of_ble_eq_true rfl) rfl o_Ta_room l_S_257 rfl (by first | assumption | exact ga G (by decide) rfl | exact lgA LG (by omega)) rfl (c_Ta_room G h1 (by omega) ?_) <;> try dsimp only [psh]) <;> try (refine T_bipush (v := (nI 12)) (pc1 := 16) (pc := 14) k_S_feed_14 rfl (by decide) ?_ <;> try ((first | (with_reducible refine T_icmp_geN (tgt := 22) (pc1 := 19) (pc := 16) k_S_feed_16 (by decide) (by decide) (by omega) (by omega) (fun hc => ?_) (fun hc => ?_) <;> first | (exfalso; omega) | skip) | refine T_icmp_ge_t (tgt := 22) (pc := 16) k_S_feed_16 rfl (by decide) ?_ | refine T_icmp_ge_f (tgt := 22) (pc1 := 19) (pc := 16) k_S_feed_16 rfl rfl (by decide) ?_ | refine T_icmp_ge (tgt := 22) (pc1 := 19) (pc := 16) k_S_feed_16 rfl rfl (fun hc => ?_) (fun hc => ?_))))))))))
      | (refine T_ldc (v := (-1000000003)) (pc1 := 21) (pc := 19) k_S_feed_19 rfl c_S_85 ?_ <;> try (refine T_retI (pc := 21) k_S_feed_21 rfl (by first | rfl | decide | assumption) ?_))
      | ((first | refine T_aload (pc1 := 24) (pc := 22) k_S_feed_22 rfl rfl ?_ | refine T_aloadN (pc1 := 24) (pc := 22) k_S_feed_22 rfl rfl ?_) <;> try (refine T_iload_n (pc1 := 25) (pc := 24) k_S_feed_24 rfl rfl ?_ <;> try ((refine T_cV (As := [_]) (d1 := 1) (pc1 := 28) (pc := 25) k_S_feed_25 rfl (by decide) (Nat.le_of_ble_eq_true rfl) rfl o_Ta_addFour l_S_262 rfl (by first | assumption | exact ga G (by decide) rfl | exact lgA LG (by omega)) rfl (c_Ta_addFour G h1 (by omega) (fun J1 hJ1 a1 z1 => ?_)) <;> try dsimp only [psh]) <;> try ((first | refine T_aload (pc1 := 30) (pc := 28) k_S_feed_28 rfl rfl ?_ | refine T_aloadN (pc1 := 30) (pc := 28) k_S_feed_28 rfl rfl ?_) <;> try (refine T_iload_n (pc1 := 31) (pc := 30) k_S_feed_30 rfl rfl ?_ <;> try ((refine T_cV (As := [_]) (d1 := 1) (pc1 := 34) (pc := 31) k_S_feed_31 rfl (by decide) (Nat.le_of_ble_eq_true rfl) rfl o_Ta_addFour l_S_262 rfl (by first | assumption | exact ga G (by decide) rfl | exact lgA LG (by omega)) rfl (c_Ta_addFour (z := z + 4) G z1 (by omega) (fun J2 hJ2 a2 z2 => ?_)) <;> try dsimp only [psh]) <;> try ((first | refine T_aload (pc1 := 36) (pc := 34) k_S_feed_34 rfl rfl ?_ | refine T_aloadN (pc1 := 36) (pc := 34) k_S_feed_34 rfl rfl ?_) <;> try (refine T_iload_n (pc1 := 37) (pc := 36) k_S_feed_36 rfl rfl ?_ <;> try ((refine T_cV (As := [_]) (d1 := 1) (pc1 := 40) (pc := 37) k_S_feed_37 rfl (by decide) (Nat.le_of_ble_eq_true rfl) rfl o_Ta_addFour l_S_262 rfl (by first | assumption | exact ga G (by decide) rfl | exact lgA LG (by omega)) rfl (c_Ta_addFour (z := z + 8) G z2 (by omega) (fun J3 hJ3 a3 z3 => ?_)) <;> try dsimp only [psh]) <;> try ((first | refine T_aload (pc1 := 42) (pc := 40) k_S_feed_40 rfl rfl ?_ | refine T_aloadN (pc1 := 42) (pc := 40) k_S_feed_40 rfl rfl ?_) <;> try (refine T_getV (pc1 := 45) (pc := 42) k_S_feed_42 rfl f_S_266 rfl (by first | assumption | exact ga G (by decide) rfl | exact lgA LG (by omega)) (by first | assumption | (simp (disch := omega) only [pI_eq, pI_row, pI_col, va_up_self, va_up_ne, ne_eq, not_false_eq_true] <;> rfl) | rfl) ?_ <;> try (refine T_retI (pc := 45) k_S_feed_45 rfl (by first | rfl | decide | assumption) ?_))))))))))))
      | refine T_getR (pc1 := 4) (pc := 1) k_S_feed_1 rfl f_S_43 rfl (by first | assumption | exact ga G (by decide) rfl | exact lgA LG (by omega)) (by first | assumption | exact gr G (by decide) rfl | exact lgR LG (by omega)) ?_
      | refine T_getR (pc1 := 7) (pc := 4) k_S_feed_4 rfl f_S_253 rfl (by first | assumption | exact ga G (by decide) rfl | exact lgA LG (by omega)) (by first | assumption | exact gr G (by decide) rfl | exact lgR LG (by omega)) ?_
      | refine T_astore (pc1 := 9) (pc := 7) k_S_feed_7 rfl (Nat.le_of_ble_eq_true rfl) ?_
      | refine T_astoreN (pc1 := 9) (pc := 7) k_S_feed_7 rfl (Nat.le_of_ble_eq_true rfl) ?_
      | refine T_aload (pc1 := 11) (pc := 9) k_S_feed_9 rfl rfl ?_
      | refine T_aloadN (pc1 := 11) (pc := 9) k_S_feed_9 rfl rfl ?_
      | (refine T_cV (As := []) (d1 := 1) (pc1 := 14) (pc := 11) k_S_feed_11 rfl (by decide) (Nat.le_of_ble_eq_true rfl) rfl o_Ta_room l_S_257 rfl (by first | assumption | exact ga G (by decide) rfl | exact lgA LG (by omega)) rfl (c_Ta_room G h1 (by omega) ?_) <;> try dsimp only [psh])
      | refine T_bipush (v := (nI 12)) (pc1 := 16) (pc := 14) k_S_feed_14 rfl (by decide) ?_
      | (with_reducible refine T_icmp_geN (tgt := 22) (pc1 := 19) (pc := 16) k_S_feed_16 (by decide) (by decide) (by omega) (by omega) (fun hc => ?_) (fun hc => ?_) <;> first | (exfalso; omega) | skip)
      | refine T_icmp_ge_t (tgt := 22) (pc := 16) k_S_feed_16 rfl (by decide) ?_
      | refine T_icmp_ge_f (tgt := 22) (pc1 := 19) (pc := 16) k_S_feed_16 rfl rfl (by decide) ?_
      | refine T_icmp_ge (tgt := 22) (pc1 := 19) (pc := 16) k_S_feed_16 rfl rfl (fun hc => ?_) (fun hc => ?_)
      | refine T_retI (pc := 21) k_S_feed_21 rfl (by first | rfl | decide | assumption) ?_
      | refine T_iload_n (pc1 := 25) (pc := 24) k_S_feed_24 rfl rfl ?_
      | (refine T_cV (As := [_]) (d1 := 1) (pc1 := 28) (pc := 25) k_S_feed_25 rfl (by decide) (Nat.le_of_ble_eq_true rfl) rfl o_Ta_addFour l_S_262 rfl (by first | assumption | exact ga G (by decide) rfl | exact lgA LG (by omega)) rfl (c_Ta_addFour G h1 (by omega) (fun J1 hJ1 a1 z1 => ?_)) <;> try dsimp only [psh])
      | refine T_aload (pc1 := 30) (pc := 28) k_S_feed_28 rfl rfl ?_
      | refine T_aloadN (pc1 := 30) (pc := 28) k_S_feed_28 rfl rfl ?_
      | refine T_iload_n (pc1 := 31) (pc := 30) k_S_feed_30 rfl rfl ?_
      | (refine T_cV (As := [_]) (d1 := 1) (pc1 := 34) (pc := 31) k_S_feed_31 rfl (by decide) (Nat.le_of_ble_eq_true rfl) rfl o_Ta_addFour l_S_262 rfl (by first | assumption | exact ga G (by decide) rfl | exact lgA LG (by omega)) rfl (c_Ta_addFour (z := z + 4) G z1 (by omega) (fun J2 hJ2 a2 z2 => ?_)) <;> try dsimp only [psh])
      | refine T_aload (pc1 := 36) (pc := 34) k_S_feed_34 rfl rfl ?_
      | refine T_aloadN (pc1 := 36) (pc := 34) k_S_feed_34 rfl rfl ?_
      | refine T_iload_n (pc1 := 37) (pc := 36) k_S_feed_36 rfl rfl ?_
      | (refine T_cV (As := [_]) (d1 := 1) (pc1 := 40) (pc := 37) k_S_feed_37 rfl (by decide) (Nat.le_of_ble_eq_true rfl) rfl o_Ta_addFour l_S_262 rfl (by first | assumption | exact ga G (by decide) rfl | exact lgA LG (by omega)) rfl (c_Ta_addFour (z := z + 8) G z2 (by omega) (fun J3 hJ3 a3 z3 => ?_)) <;> try dsimp only [psh])
      | refine T_aload (pc1 := 42) (pc := 40) k_S_feed_40 rfl rfl ?_
      | refine T_aloadN (pc1 := 42) (pc := 40) k_S_feed_40 rfl rfl ?_
      | refine T_getV (pc1 := 45) (pc := 42) k_S_feed_42 rfl f_S_266 rfl (by first | assumption | exact ga G (by decide) rfl | exact lgA LG (by omega)) (by first | assumption | (simp (disch := omega) only [pI_eq, pI_row, pI_col, va_up_self, va_up_ne, ne_eq, not_false_eq_true] <;> rfl) | rfl) ?_
      | refine T_retI (pc := 45) k_S_feed_45 rfl (by first | rfl | decide | assumption) ?_)
    all_goals try (exfalso; omega)
    refine kk J3 _ (fr_x (eqx_tr hJ1 (eqx_tr hJ2 hJ3)) (fun i hi => by simpa [tpf] using hi)) ⟨z3, fun k hk => ?_⟩ rfl
    rw [a3, a2, a1]
    exact lay4_cell (lay4_cell (lay4_cell h2)) k hk
  · rw [if_neg h, if_neg h, if_neg h] at kk
    have kk := kk I _ fr_rf hT rfl
    repeat' (first
      | ((first | refine T_aload_n (pc1 := 1) (pc := 0) k_S_feed_0 rfl rfl ?_ | refine T_aload_nN (pc1 := 1) (pc := 0) k_S_feed_0 rfl rfl ?_) <;> try (refine T_getR (pc1 := 4) (pc := 1) k_S_feed_1 rfl f_S_43 rfl (by first | assumption | exact ga G (by decide) rfl | exact lgA LG (by omega)) (by first | assumption | exact gr G (by decide) rfl | exact lgR LG (by omega)) ?_ <;> try (refine T_getR (pc1 := 7) (pc := 4) k_S_feed_4 rfl f_S_253 rfl (by first | assumption | exact ga G (by decide) rfl | exact lgA LG (by omega)) (by first | assumption | exact gr G (by decide) rfl | exact lgR LG (by omega)) ?_ <;> try ((first | refine T_astore (pc1 := 9) (pc := 7) k_S_feed_7 rfl (Nat.le_of_ble_eq_true rfl) ?_ | refine T_astoreN (pc1 := 9) (pc := 7) k_S_feed_7 rfl (Nat.le_of_ble_eq_true rfl) ?_) <;> try ((first | refine T_aload (pc1 := 11) (pc := 9) k_S_feed_9 rfl rfl ?_ | refine T_aloadN (pc1 := 11) (pc := 9) k_S_feed_9 rfl rfl ?_) <;> try ((refine T_cV (As := []) (d1 := 1) (pc1 := 14) (pc := 11) k_S_feed_11 rfl (by decide) (Nat.le_of_ble_eq_true rfl) rfl o_Ta_room l_S_257 rfl (by first | assumption | exact ga G (by decide) rfl | exact lgA LG (by omega)) rfl (c_Ta_room G h1 (by omega) ?_) <;> try dsimp only [psh]) <;> try (refine T_bipush (v := (nI 12)) (pc1 := 16) (pc := 14) k_S_feed_14 rfl (by decide) ?_ <;> try ((first | (with_reducible refine T_icmp_geN (tgt := 22) (pc1 := 19) (pc := 16) k_S_feed_16 (by decide) (by decide) (by omega) (by omega) (fun hc => ?_) (fun hc => ?_) <;> first | (exfalso; omega) | skip) | refine T_icmp_ge_t (tgt := 22) (pc := 16) k_S_feed_16 rfl (by decide) ?_ | refine T_icmp_ge_f (tgt := 22) (pc1 := 19) (pc := 16) k_S_feed_16 rfl rfl (by decide) ?_ | refine T_icmp_ge (tgt := 22) (pc1 := 19) (pc := 16) k_S_feed_16 rfl rfl (fun hc => ?_) (fun hc => ?_))))))))))
      | (refine T_ldc (v := (-1000000003)) (pc1 := 21) (pc := 19) k_S_feed_19 rfl c_S_85 ?_ <;> try (refine T_retI (pc := 21) k_S_feed_21 rfl (by first | rfl | decide | assumption) ?_))
      | refine T_getR (pc1 := 4) (pc := 1) k_S_feed_1 rfl f_S_43 rfl (by first | assumption | exact ga G (by decide) rfl | exact lgA LG (by omega)) (by first | assumption | exact gr G (by decide) rfl | exact lgR LG (by omega)) ?_
      | refine T_getR (pc1 := 7) (pc := 4) k_S_feed_4 rfl f_S_253 rfl (by first | assumption | exact ga G (by decide) rfl | exact lgA LG (by omega)) (by first | assumption | exact gr G (by decide) rfl | exact lgR LG (by omega)) ?_
      | refine T_astore (pc1 := 9) (pc := 7) k_S_feed_7 rfl (Nat.le_of_ble_eq_true rfl) ?_
      | refine T_astoreN (pc1 := 9) (pc := 7) k_S_feed_7 rfl (Nat.le_of_ble_eq_true rfl) ?_
      | refine T_aload (pc1 := 11) (pc := 9) k_S_feed_9 rfl rfl ?_
      | refine T_aloadN (pc1 := 11) (pc := 9) k_S_feed_9 rfl rfl ?_
      | (refine T_cV (As := []) (d1 := 1) (pc1 := 14) (pc := 11) k_S_feed_11 rfl (by decide) (Nat.le_of_ble_eq_true rfl) rfl o_Ta_room l_S_257 rfl (by first | assumption | exact ga G (by decide) rfl | exact lgA LG (by omega)) rfl (c_Ta_room G h1 (by omega) ?_) <;> try dsimp only [psh])
      | refine T_bipush (v := (nI 12)) (pc1 := 16) (pc := 14) k_S_feed_14 rfl (by decide) ?_
      | (with_reducible refine T_icmp_geN (tgt := 22) (pc1 := 19) (pc := 16) k_S_feed_16 (by decide) (by decide) (by omega) (by omega) (fun hc => ?_) (fun hc => ?_) <;> first | (exfalso; omega) | skip)
      | refine T_icmp_ge_t (tgt := 22) (pc := 16) k_S_feed_16 rfl (by decide) ?_
      | refine T_icmp_ge_f (tgt := 22) (pc1 := 19) (pc := 16) k_S_feed_16 rfl rfl (by decide) ?_
      | refine T_icmp_ge (tgt := 22) (pc1 := 19) (pc := 16) k_S_feed_16 rfl rfl (fun hc => ?_) (fun hc => ?_)
      | refine T_retI (pc := 21) k_S_feed_21 rfl (by first | rfl | decide | assumption) ?_)
    all_goals first | exact kk | (exfalso; omega)
theorem c_S_trim {T : Row} {z : Nat} {v : Int32} (G : GeoOK g) (hT : CT I T z) (h96 : z ≤ 96) (kk : ∀ J r, fre tpf I J → CT J T (trimZ z v) → r = trimA z v → K (some (.int r)) g J) : Cl 2 M_S_trim [.ref 0, .int v] g I K := by
  show Rl 2 M_S_trim 0 [some (.ref 0), some (.int v)] [] g I K
  obtain ⟨h1, h2⟩ := id hT
  have e0 : (nI 0).toInt = 0 := rfl
  have ez := nI_toInt (n := z) (by omega)
  unfold trimZ trimA at kk
  by_cases h : bt 0 z v
  · rw [if_pos h, if_pos h] at kk
    obtain ⟨q, -, hq, rfl⟩ := bt_of (lo := 0) (hi := z) h (by omega)
    rw [nI_clamp (by omega)] at kk
    have q1 := h.1
    have q2 := h.2
    repeat' (first
      | (refine T_iload_n (pc1 := 1) (pc := 0) k_S_trim_0 rfl rfl ?_ <;> try (refine T_iconst (v := (nI 0)) (pc1 := 2) (pc := 1) k_S_trim_1 rfl (by decide) ?_ <;> try ((first | refine T_aload_n (pc1 := 3) (pc := 2) k_S_trim_2 rfl rfl ?_ | refine T_aload_nN (pc1 := 3) (pc := 2) k_S_trim_2 rfl rfl ?_) <;> try (refine T_getR (pc1 := 6) (pc := 3) k_S_trim_3 rfl f_S_43 rfl (by first | assumption | exact ga G (by decide) rfl | exact lgA LG (by omega)) (by first | assumption | exact gr G (by decide) rfl | exact lgR LG (by omega)) ?_ <;> try (refine T_getR (pc1 := 9) (pc := 6) k_S_trim_6 rfl f_S_253 rfl (by first | assumption | exact ga G (by decide) rfl | exact lgA LG (by omega)) (by first | assumption | exact gr G (by decide) rfl | exact lgR LG (by omega)) ?_ <;> try (refine T_getV (pc1 := 12) (pc := 9) k_S_trim_9 rfl f_S_266 rfl (by first | assumption | exact ga G (by decide) rfl | exact lgA LG (by omega)) (by first | assumption | (simp (disch := omega) only [pI_eq, pI_row, pI_col, va_up_self, va_up_ne, ne_eq, not_false_eq_true] <;> rfl) | rfl) ?_ <;> try ((refine T_cS (As := [_, _, _]) (d1 := 1) (pc1 := 15) (pc := 12) k_S_trim_12 rfl (by decide) (Nat.le_of_ble_eq_true rfl) rfl o_S_isWithin l_S_77 rfl (c_S_isWithin (fun hw => ?_) (fun hw => ?_)) <;> try dsimp only [psh]) <;> try ((first | (with_reducible refine T_if_neN (tgt := 21) (pc1 := 18) (pc := 15) k_S_trim_15 (by decide) (by decide) (by omega) (fun hc => ?_) (fun hc => ?_) <;> first | (exfalso; omega) | skip) | refine T_if_ne_t (tgt := 21) (pc := 15) k_S_trim_15 rfl (by decide) ?_ | refine T_if_ne_f (tgt := 21) (pc1 := 18) (pc := 15) k_S_trim_15 rfl rfl (by decide) ?_ | refine T_if_ne (tgt := 21) (pc1 := 18) (pc := 15) k_S_trim_15 rfl rfl (fun hc => ?_) (fun hc => ?_))))))))))
      | (refine T_ldc (v := (-1000000001)) (pc1 := 20) (pc := 18) k_S_trim_18 rfl c_S_81 ?_ <;> try (refine T_retI (pc := 20) k_S_trim_20 rfl (by first | rfl | decide | assumption) ?_))
      | ((first | refine T_aload_n (pc1 := 22) (pc := 21) k_S_trim_21 rfl rfl ?_ | refine T_aload_nN (pc1 := 22) (pc := 21) k_S_trim_21 rfl rfl ?_) <;> try (refine T_getR (pc1 := 25) (pc := 22) k_S_trim_22 rfl f_S_43 rfl (by first | assumption | exact ga G (by decide) rfl | exact lgA LG (by omega)) (by first | assumption | exact gr G (by decide) rfl | exact lgR LG (by omega)) ?_ <;> try (refine T_getR (pc1 := 28) (pc := 25) k_S_trim_25 rfl f_S_253 rfl (by first | assumption | exact ga G (by decide) rfl | exact lgA LG (by omega)) (by first | assumption | exact gr G (by decide) rfl | exact lgR LG (by omega)) ?_ <;> try (refine T_iload_n (pc1 := 29) (pc := 28) k_S_trim_28 rfl rfl ?_ <;> try (refine T_putI (pc1 := 32) (pc := 29) k_S_trim_29 rfl f_S_266 rfl (by first | assumption | exact ga G (by decide) rfl | exact lgA LG (by omega)) (by first | rfl | decide | assumption) (by first | rfl | decide | assumption) ?_ <;> try (refine T_iload_n (pc1 := 33) (pc := 32) k_S_trim_32 rfl rfl ?_ <;> try (refine T_retI (pc := 33) k_S_trim_33 rfl (by first | rfl | decide | assumption) ?_)))))))
      | refine T_iconst (v := (nI 0)) (pc1 := 2) (pc := 1) k_S_trim_1 rfl (by decide) ?_
      | refine T_aload_n (pc1 := 3) (pc := 2) k_S_trim_2 rfl rfl ?_
      | refine T_aload_nN (pc1 := 3) (pc := 2) k_S_trim_2 rfl rfl ?_
      | refine T_getR (pc1 := 6) (pc := 3) k_S_trim_3 rfl f_S_43 rfl (by first | assumption | exact ga G (by decide) rfl | exact lgA LG (by omega)) (by first | assumption | exact gr G (by decide) rfl | exact lgR LG (by omega)) ?_
      | refine T_getR (pc1 := 9) (pc := 6) k_S_trim_6 rfl f_S_253 rfl (by first | assumption | exact ga G (by decide) rfl | exact lgA LG (by omega)) (by first | assumption | exact gr G (by decide) rfl | exact lgR LG (by omega)) ?_
      | refine T_getV (pc1 := 12) (pc := 9) k_S_trim_9 rfl f_S_266 rfl (by first | assumption | exact ga G (by decide) rfl | exact lgA LG (by omega)) (by first | assumption | (simp (disch := omega) only [pI_eq, pI_row, pI_col, va_up_self, va_up_ne, ne_eq, not_false_eq_true] <;> rfl) | rfl) ?_
      | (refine T_cS (As := [_, _, _]) (d1 := 1) (pc1 := 15) (pc := 12) k_S_trim_12 rfl (by decide) (Nat.le_of_ble_eq_true rfl) rfl o_S_isWithin l_S_77 rfl (c_S_isWithin (fun hw => ?_) (fun hw => ?_)) <;> try dsimp only [psh])
      | (with_reducible refine T_if_neN (tgt := 21) (pc1 := 18) (pc := 15) k_S_trim_15 (by decide) (by decide) (by omega) (fun hc => ?_) (fun hc => ?_) <;> first | (exfalso; omega) | skip)
      | refine T_if_ne_t (tgt := 21) (pc := 15) k_S_trim_15 rfl (by decide) ?_
      | refine T_if_ne_f (tgt := 21) (pc1 := 18) (pc := 15) k_S_trim_15 rfl rfl (by decide) ?_
      | refine T_if_ne (tgt := 21) (pc1 := 18) (pc := 15) k_S_trim_15 rfl rfl (fun hc => ?_) (fun hc => ?_)
      | refine T_retI (pc := 20) k_S_trim_20 rfl (by first | rfl | decide | assumption) ?_
      | refine T_getR (pc1 := 25) (pc := 22) k_S_trim_22 rfl f_S_43 rfl (by first | assumption | exact ga G (by decide) rfl | exact lgA LG (by omega)) (by first | assumption | exact gr G (by decide) rfl | exact lgR LG (by omega)) ?_
      | refine T_getR (pc1 := 28) (pc := 25) k_S_trim_25 rfl f_S_253 rfl (by first | assumption | exact ga G (by decide) rfl | exact lgA LG (by omega)) (by first | assumption | exact gr G (by decide) rfl | exact lgR LG (by omega)) ?_
      | refine T_iload_n (pc1 := 29) (pc := 28) k_S_trim_28 rfl rfl ?_
      | refine T_putI (pc1 := 32) (pc := 29) k_S_trim_29 rfl f_S_266 rfl (by first | assumption | exact ga G (by decide) rfl | exact lgA LG (by omega)) (by first | rfl | decide | assumption) (by first | rfl | decide | assumption) ?_
      | refine T_iload_n (pc1 := 33) (pc := 32) k_S_trim_32 rfl rfl ?_
      | refine T_retI (pc := 33) k_S_trim_33 rfl (by first | rfl | decide | assumption) ?_)
    all_goals first | exact kk _ _ (fr_pI fr_rf (Or.inl rfl)) ⟨pI_eq, fun k hk => by rw [pI_row (by decide)]; exact h2 k (by omega)⟩ rfl | (exfalso; apply hw; constructor <;> omega)
  · rw [if_neg h, if_neg h] at kk
    have kk := kk I _ fr_rf hT rfl
    repeat' (first
      | (refine T_iload_n (pc1 := 1) (pc := 0) k_S_trim_0 rfl rfl ?_ <;> try (refine T_iconst (v := (nI 0)) (pc1 := 2) (pc := 1) k_S_trim_1 rfl (by decide) ?_ <;> try ((first | refine T_aload_n (pc1 := 3) (pc := 2) k_S_trim_2 rfl rfl ?_ | refine T_aload_nN (pc1 := 3) (pc := 2) k_S_trim_2 rfl rfl ?_) <;> try (refine T_getR (pc1 := 6) (pc := 3) k_S_trim_3 rfl f_S_43 rfl (by first | assumption | exact ga G (by decide) rfl | exact lgA LG (by omega)) (by first | assumption | exact gr G (by decide) rfl | exact lgR LG (by omega)) ?_ <;> try (refine T_getR (pc1 := 9) (pc := 6) k_S_trim_6 rfl f_S_253 rfl (by first | assumption | exact ga G (by decide) rfl | exact lgA LG (by omega)) (by first | assumption | exact gr G (by decide) rfl | exact lgR LG (by omega)) ?_ <;> try (refine T_getV (pc1 := 12) (pc := 9) k_S_trim_9 rfl f_S_266 rfl (by first | assumption | exact ga G (by decide) rfl | exact lgA LG (by omega)) (by first | assumption | (simp (disch := omega) only [pI_eq, pI_row, pI_col, va_up_self, va_up_ne, ne_eq, not_false_eq_true] <;> rfl) | rfl) ?_ <;> try ((refine T_cS (As := [_, _, _]) (d1 := 1) (pc1 := 15) (pc := 12) k_S_trim_12 rfl (by decide) (Nat.le_of_ble_eq_true rfl) rfl o_S_isWithin l_S_77 rfl (c_S_isWithin (fun hw => ?_) (fun hw => ?_)) <;> try dsimp only [psh]) <;> try ((first | (with_reducible refine T_if_neN (tgt := 21) (pc1 := 18) (pc := 15) k_S_trim_15 (by decide) (by decide) (by omega) (fun hc => ?_) (fun hc => ?_) <;> first | (exfalso; omega) | skip) | refine T_if_ne_t (tgt := 21) (pc := 15) k_S_trim_15 rfl (by decide) ?_ | refine T_if_ne_f (tgt := 21) (pc1 := 18) (pc := 15) k_S_trim_15 rfl rfl (by decide) ?_ | refine T_if_ne (tgt := 21) (pc1 := 18) (pc := 15) k_S_trim_15 rfl rfl (fun hc => ?_) (fun hc => ?_))))))))))
      | (refine T_ldc (v := (-1000000001)) (pc1 := 20) (pc := 18) k_S_trim_18 rfl c_S_81 ?_ <;> try (refine T_retI (pc := 20) k_S_trim_20 rfl (by first | rfl | decide | assumption) ?_))
      | refine T_iconst (v := (nI 0)) (pc1 := 2) (pc := 1) k_S_trim_1 rfl (by decide) ?_
      | refine T_aload_n (pc1 := 3) (pc := 2) k_S_trim_2 rfl rfl ?_
      | refine T_aload_nN (pc1 := 3) (pc := 2) k_S_trim_2 rfl rfl ?_
      | refine T_getR (pc1 := 6) (pc := 3) k_S_trim_3 rfl f_S_43 rfl (by first | assumption | exact ga G (by decide) rfl | exact lgA LG (by omega)) (by first | assumption | exact gr G (by decide) rfl | exact lgR LG (by omega)) ?_
      | refine T_getR (pc1 := 9) (pc := 6) k_S_trim_6 rfl f_S_253 rfl (by first | assumption | exact ga G (by decide) rfl | exact lgA LG (by omega)) (by first | assumption | exact gr G (by decide) rfl | exact lgR LG (by omega)) ?_
      | refine T_getV (pc1 := 12) (pc := 9) k_S_trim_9 rfl f_S_266 rfl (by first | assumption | exact ga G (by decide) rfl | exact lgA LG (by omega)) (by first | assumption | (simp (disch := omega) only [pI_eq, pI_row, pI_col, va_up_self, va_up_ne, ne_eq, not_false_eq_true] <;> rfl) | rfl) ?_
      | (refine T_cS (As := [_, _, _]) (d1 := 1) (pc1 := 15) (pc := 12) k_S_trim_12 rfl (by decide) (Nat.le_of_ble_eq_true rfl) rfl o_S_isWithin l_S_77 rfl (c_S_isWithin (fun hw => ?_) (fun hw => ?_)) <;> try dsimp only [psh])
      | (with_reducible refine T_if_neN (tgt := 21) (pc1 := 18) (pc := 15) k_S_trim_15 (by decide) (by decide) (by omega) (fun hc => ?_) (fun hc => ?_) <;> first | (exfalso; omega) | skip)
      | refine T_if_ne_t (tgt := 21) (pc := 15) k_S_trim_15 rfl (by decide) ?_
      | refine T_if_ne_f (tgt := 21) (pc1 := 18) (pc := 15) k_S_trim_15 rfl rfl (by decide) ?_
      | refine T_if_ne (tgt := 21) (pc1 := 18) (pc := 15) k_S_trim_15 rfl rfl (fun hc => ?_) (fun hc => ?_)
      | refine T_retI (pc := 20) k_S_trim_20 rfl (by first | rfl | decide | assumption) ?_)
    all_goals first | exact kk | (exfalso; apply h; constructor <;> omega)
end S7
