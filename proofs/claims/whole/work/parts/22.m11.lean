/-! The model: told, walk, hush, best, what will be. -/
section PU7
def walkA (N : Row) (n tn : Nat) (f t : Int32) : Int32 := if rg 8 f ∧ rg 8 t then nI (wkM N n tn f.toNatClampNeg t.toNatClampNeg) else cBAD
def walkN (N : Row) (n tn : Nat) (f t : Int32) : Row := if rg 8 f ∧ rg 8 t then wkN N n tn f.toNatClampNeg t.toNatClampNeg else N
def hsN (N : Row) : Nat → Row
  | 0 => N
  | b + 1 => va_up (hsN N b) (12 + 6 * b + 5) cNONE
def hsC (N : Row) : Nat → Nat
  | 0 => 0
  | b + 1 => hsC N b + (if bf N b 5 = cNONE then 0 else 1)
theorem hsN_ne {N : Row} {k : Nat} : ∀ b, (∀ j, j < b → k ≠ 12 + 6 * j + 5) → hsN N b k = N k
  | 0, _ => rfl
  | b + 1, h => by
    unfold hsN
    rw [va_up_ne _ _ (h b (by omega))]
    exact hsN_ne b (fun j hj => h j (by omega))
theorem hsC_le (N : Row) : ∀ b, hsC N b ≤ b
  | 0 => Nat.le_refl _
  | b + 1 => by
    have := hsC_le N b
    unfold hsC
    split <;> omega
def bestA (N : Row) (n tn : Nat) (f t : Int32) : Int32 := if rg 8 f ∧ rg 8 t then nway (bst N n tn (-1) f.toNatClampNeg t.toNatClampNeg) else cBAD
def losesA (N : Row) (n tn : Nat) (f t : Int32) : Int32 := if rg 8 f ∧ rg 8 t then (if 1000000 ≤ bst N n tn (-1) f.toNatClampNeg t.toNatClampNeg then cNONE else nI (wkM N n tn f.toNatClampNeg t.toNatClampNeg) - nI (bst N n tn (-1) f.toNatClampNeg t.toNatClampNeg)) else cBAD
def behindA (N : Row) (n tn : Nat) (f t m : Int32) : Int32 := if (rg 8 f ∧ rg 8 t) ∧ bt 0 40 m then nI (wkM (itN N n tn f.toNatClampNeg t.toNatClampNeg m.toNatClampNeg) n tn f.toNatClampNeg t.toNatClampNeg) else cBAD
theorem back_eq {S : List Nat} {I J : IM} {N A : Row} (hN : I 102 = N) (hJ : eqx (102 :: S) I J) (h104 : J 104 = cpy 156 N A) (hM : ∀ k, 156 ≤ k → J 102 k = N k) : eqx S I (va_up J 102 (cpy 156 (J 104) (J 102))) := by
  intro i hi
  by_cases h : i = 102
  · subst h
    rw [va_up_self, h104, hN]
    funext k
    unfold cpy
    by_cases hk : k < 156
    · rw [if_pos hk, if_pos hk]
    · rw [if_neg hk]; exact hM k (by omega)
  · rw [va_up_ne _ _ h]
    exact hJ i (fun q => by rcases List.mem_cons.mp q with q | q; exact h q; exact hi q)
theorem bst_le {N : Row} {n tn fr to0 : Nat} {w : Int32} (ok : okL N n tn) : bst N n tn w fr to0 ≤ 1000000 := dst_le (okL_E ok) _
theorem bcs_le {N : Row} {n tn b : Nat} {w : Int32} (ok : okL N n tn) (hb : b < n) : bcs N tn w b ≤ 1998 := by
  unfold bcs
  split
  · omega
  · exact (tkk_eq ok hb).2.2
end PU7
section M11
variable {g : Geo} {I : IM} {K : Option Value → Geo → IM → Prop}
set_option maxHeartbeats 4000000 in
theorem c_M_told {N : Row} {n tn : Nat} {b w : Int32} (G : GeoOK g) (hN : I 102 = N) (ok : okL N n tn) (kk : ∀ J r, eqx [112, 113] I J → r = toldA N n tn b w → K (some (.int r)) g J) : Cl 5 M_M_told [.ref 101, .int b, .int w] g I K := by
  show Rl 5 M_M_told 0 [some (.ref 101), some (.int b), some (.int w)] [] g I K
  obtain ⟨hn, h14, -⟩ := id ok
  have e0 : (nI 0).toInt = 0 := rfl
  have e9 : (nI 9).toInt = 9 := rfl
  by_cases hok : rg n b ∧ rg 10 w
  · rw [toldA, if_pos hok] at kk
    obtain ⟨j, hj, rfl⟩ := rg_of hok.1 (by omega)
    obtain ⟨q, hq, rfl⟩ := rg_of hok.2 (by omega)
    have eq1 := nI_toInt (n := q) (by omega)
    rw [nI_clamp (by omega), nI_clamp (by omega)] at kk
    obtain ⟨k0, o, t, l, r, h0, hk, -⟩ := ok.2.2.2.2.1 j hj
    by_cases q6 : q = 6
    · subst q6
      repeat' (first
        | refine T_aload_n (pc1 := 1) (pc := 0) k_M_told_0 rfl rfl ?_
        | refine T_aload_nN (pc1 := 1) (pc := 0) k_M_told_0 rfl rfl ?_
        | refine T_iload_n (pc1 := 2) (pc := 1) k_M_told_1 rfl rfl ?_
        | (refine T_cV (As := [_]) (d1 := 2) (pc1 := 5) (pc := 2) k_M_told_2 rfl (by decide) (Nat.le_of_ble_eq_true rfl) rfl o_M_isBit l_M_140 rfl (by first | exact ga G (by decide) rfl | assumption) rfl (c_M_isBit G hN hn h14 (fun hw => ?_) (fun hw => ?_)) <;> try dsimp only [psh])
        | (with_reducible refine T_if_eqN (tgt := 18) (pc1 := 8) (pc := 5) k_M_told_5 (by decide) (by decide) (by omega) (fun hc => ?_) (fun hc => ?_) <;> first | (exfalso; omega) | skip)
        | refine T_if_eq_t (tgt := 18) (pc := 5) k_M_told_5 rfl (by decide) ?_
        | refine T_if_eq_f (tgt := 18) (pc1 := 8) (pc := 5) k_M_told_5 rfl rfl (by decide) ?_
        | refine T_if_eq (tgt := 18) (pc1 := 8) (pc := 5) k_M_told_5 rfl rfl (fun hc => ?_) (fun hc => ?_)
        | refine T_iload_n (pc1 := 9) (pc := 8) k_M_told_8 rfl rfl ?_
        | refine T_iconst (v := (nI 0)) (pc1 := 10) (pc := 9) k_M_told_9 rfl (by decide) ?_
        | refine T_bipush (v := (nI 9)) (pc1 := 12) (pc := 10) k_M_told_10 rfl (by decide) ?_
        | (refine T_cS (As := [_, _, _]) (d1 := 1) (pc1 := 15) (pc := 12) k_M_told_12 rfl (by decide) (Nat.le_of_ble_eq_true rfl) rfl o_M_within l_M_95 rfl (c_M_within (fun hw => ?_) (fun hw => ?_)) <;> try dsimp only [psh])
        | (with_reducible refine T_if_neN (tgt := 21) (pc1 := 18) (pc := 15) k_M_told_15 (by decide) (by decide) (by omega) (fun hc => ?_) (fun hc => ?_) <;> first | (exfalso; omega) | skip)
        | refine T_if_ne_t (tgt := 21) (pc := 15) k_M_told_15 rfl (by decide) ?_
        | refine T_if_ne_f (tgt := 21) (pc1 := 18) (pc := 15) k_M_told_15 rfl rfl (by decide) ?_
        | refine T_if_ne (tgt := 21) (pc1 := 18) (pc := 15) k_M_told_15 rfl rfl (fun hc => ?_) (fun hc => ?_)
        | refine T_ldc (v := (-1000000001)) (pc1 := 20) (pc := 18) k_M_told_18 rfl c_M_111 ?_
        | refine T_retI (pc := 20) k_M_told_20 rfl (by first | rfl | decide | assumption) ?_
        | refine T_iload_n (pc1 := 22) (pc := 21) k_M_told_21 rfl rfl ?_
        | (with_reducible refine swN_M_told_22 (by omega) (fun hc => ?_) (fun hc => ?_) (fun hc => ?_) (fun hc => ?_) (fun hc => ?_) <;> first | (exfalso; omega) | skip)
        | refine sw_M_told_22 (fun hc => ?_) (fun hc => ?_) (fun hc => ?_) (fun hc => ?_) (fun hc => ?_)
        | refine T_aload_n (pc1 := 53) (pc := 52) k_M_told_52 rfl rfl ?_
        | refine T_aload_nN (pc1 := 53) (pc := 52) k_M_told_52 rfl rfl ?_
        | refine T_iload_n (pc1 := 54) (pc := 53) k_M_told_53 rfl rfl ?_
        | (refine T_cV (As := [_]) (d1 := 4) (pc1 := 57) (pc := 54) k_M_told_54 rfl (by decide) (Nat.le_of_ble_eq_true rfl) rfl o_M_takes l_M_143 rfl (by first | exact ga G (by decide) rfl | assumption) rfl (c_M_takes G (by assumption) (by assumption) (by assumption) (fun J hJ => ?_)) <;> try dsimp only [psh])
        | refine T_retI (pc := 57) k_M_told_57 rfl (by first | rfl | decide | assumption) ?_
        | refine T_aload_n (pc1 := 59) (pc := 58) k_M_told_58 rfl rfl ?_
        | refine T_aload_nN (pc1 := 59) (pc := 58) k_M_told_58 rfl rfl ?_
        | refine T_iload_n (pc1 := 60) (pc := 59) k_M_told_59 rfl rfl ?_
        | (refine T_cV (As := [_]) (d1 := 3) (pc1 := 63) (pc := 60) k_M_told_60 rfl (by decide) (Nat.le_of_ble_eq_true rfl) rfl o_M_isBarred l_M_146 rfl (by first | exact ga G (by decide) rfl | assumption) rfl (c_M_isBarred G (by assumption) (by assumption) (by assumption) (fun hb1 => ?_) (fun hb1 => ?_)) <;> try dsimp only [psh])
        | (with_reducible refine T_if_eqN (tgt := 70) (pc1 := 66) (pc := 63) k_M_told_63 (by decide) (by decide) (by omega) (fun hc => ?_) (fun hc => ?_) <;> first | (exfalso; omega) | skip)
        | refine T_if_eq_t (tgt := 70) (pc := 63) k_M_told_63 rfl (by decide) ?_
        | refine T_if_eq_f (tgt := 70) (pc1 := 66) (pc := 63) k_M_told_63 rfl rfl (by decide) ?_
        | refine T_if_eq (tgt := 70) (pc1 := 66) (pc := 63) k_M_told_63 rfl rfl (fun hc => ?_) (fun hc => ?_)
        | refine T_iconst (v := (nI 1)) (pc1 := 67) (pc := 66) k_M_told_66 rfl (by decide) ?_
        | refine T_goto (tgt := 71) (pc := 67) k_M_told_67 rfl ?_
        | refine T_iconst (v := (nI 0)) (pc1 := 71) (pc := 70) k_M_told_70 rfl (by decide) ?_
        | refine T_retI (pc := 71) k_M_told_71 rfl (by first | rfl | decide | assumption) ?_
        | refine T_aload_n (pc1 := 73) (pc := 72) k_M_told_72 rfl rfl ?_
        | refine T_aload_nN (pc1 := 73) (pc := 72) k_M_told_72 rfl rfl ?_
        | refine T_iload_n (pc1 := 74) (pc := 73) k_M_told_73 rfl rfl ?_
        | (refine T_cV (As := [_]) (d1 := 3) (pc1 := 77) (pc := 74) k_M_told_74 rfl (by decide) (Nat.le_of_ble_eq_true rfl) rfl o_M_thinks l_M_149 rfl (by first | exact ga G (by decide) rfl | assumption) rfl (c_M_thinks G (by assumption) (by assumption) (by assumption) (fun J hJ => ?_)) <;> try dsimp only [psh])
        | refine T_retI (pc := 77) k_M_told_77 rfl (by first | rfl | decide | assumption) ?_
        | refine T_aload_n (pc1 := 79) (pc := 78) k_M_told_78 rfl rfl ?_
        | refine T_aload_nN (pc1 := 79) (pc := 78) k_M_told_78 rfl rfl ?_
        | refine T_iload_n (pc1 := 80) (pc := 79) k_M_told_79 rfl rfl ?_
        | refine T_iconst (v := (nI 0)) (pc1 := 81) (pc := 80) k_M_told_80 rfl (by decide) ?_
        | (refine T_cV (As := [_, _]) (d1 := 1) (pc1 := 84) (pc := 81) k_M_told_81 rfl (by decide) (Nat.le_of_ble_eq_true rfl) rfl o_M_bitIs l_M_124 rfl (by first | exact ga G (by decide) rfl | assumption) rfl (c_M_bitN G (by assumption) (by omega) (by omega) (by first | assumption | rfl) ?_) <;> try dsimp only [psh])
        | refine T_aload_n (pc1 := 85) (pc := 84) k_M_told_84 rfl rfl ?_
        | refine T_aload_nN (pc1 := 85) (pc := 84) k_M_told_84 rfl rfl ?_
        | refine T_iload_n (pc1 := 86) (pc := 85) k_M_told_85 rfl rfl ?_
        | refine T_iconst (v := (nI 3)) (pc1 := 87) (pc := 86) k_M_told_86 rfl (by decide) ?_
        | (refine T_cV (As := [_, _]) (d1 := 1) (pc1 := 90) (pc := 87) k_M_told_87 rfl (by decide) (Nat.le_of_ble_eq_true rfl) rfl o_M_bitIs l_M_124 rfl (by first | exact ga G (by decide) rfl | assumption) rfl (c_M_bitN G (by assumption) (by omega) (by omega) (by first | assumption | rfl) ?_) <;> try dsimp only [psh])
        | (refine T_cS (As := [_, _]) (d1 := 1) (pc1 := 93) (pc := 90) k_M_told_90 rfl (by decide) (Nat.le_of_ble_eq_true rfl) rfl o_M_worth l_M_152 rfl (c_M_worth (by omega) ?_) <;> try dsimp only [psh])
        | refine T_retI (pc := 93) k_M_told_93 rfl (by first | rfl | decide | assumption) ?_
        | refine T_aload_n (pc1 := 95) (pc := 94) k_M_told_94 rfl rfl ?_
        | refine T_aload_nN (pc1 := 95) (pc := 94) k_M_told_94 rfl rfl ?_
        | refine T_iload_n (pc1 := 96) (pc := 95) k_M_told_95 rfl rfl ?_
        | refine T_iload_n (pc1 := 97) (pc := 96) k_M_told_96 rfl rfl ?_
        | (refine T_cV (As := [_, _]) (d1 := 1) (pc1 := 100) (pc := 97) k_M_told_97 rfl (by decide) (Nat.le_of_ble_eq_true rfl) rfl o_M_bitIs l_M_124 rfl (by first | exact ga G (by decide) rfl | assumption) rfl (c_M_bitN G (by assumption) (by omega) (by omega) (by first | assumption | rfl) ?_) <;> try dsimp only [psh])
        | refine T_retI (pc := 100) k_M_told_100 rfl (by first | rfl | decide | assumption) ?_)
      all_goals first | exact kk _ _ hJ rfl | (exfalso; apply hw; constructor <;> omega) | (exfalso; exact hw hok.1)
    by_cases q7 : q = 7
    · subst q7
      repeat' (first
        | refine T_aload_n (pc1 := 1) (pc := 0) k_M_told_0 rfl rfl ?_
        | refine T_aload_nN (pc1 := 1) (pc := 0) k_M_told_0 rfl rfl ?_
        | refine T_iload_n (pc1 := 2) (pc := 1) k_M_told_1 rfl rfl ?_
        | (refine T_cV (As := [_]) (d1 := 2) (pc1 := 5) (pc := 2) k_M_told_2 rfl (by decide) (Nat.le_of_ble_eq_true rfl) rfl o_M_isBit l_M_140 rfl (by first | exact ga G (by decide) rfl | assumption) rfl (c_M_isBit G hN hn h14 (fun hw => ?_) (fun hw => ?_)) <;> try dsimp only [psh])
        | (with_reducible refine T_if_eqN (tgt := 18) (pc1 := 8) (pc := 5) k_M_told_5 (by decide) (by decide) (by omega) (fun hc => ?_) (fun hc => ?_) <;> first | (exfalso; omega) | skip)
        | refine T_if_eq_t (tgt := 18) (pc := 5) k_M_told_5 rfl (by decide) ?_
        | refine T_if_eq_f (tgt := 18) (pc1 := 8) (pc := 5) k_M_told_5 rfl rfl (by decide) ?_
        | refine T_if_eq (tgt := 18) (pc1 := 8) (pc := 5) k_M_told_5 rfl rfl (fun hc => ?_) (fun hc => ?_)
        | refine T_iload_n (pc1 := 9) (pc := 8) k_M_told_8 rfl rfl ?_
        | refine T_iconst (v := (nI 0)) (pc1 := 10) (pc := 9) k_M_told_9 rfl (by decide) ?_
        | refine T_bipush (v := (nI 9)) (pc1 := 12) (pc := 10) k_M_told_10 rfl (by decide) ?_
        | (refine T_cS (As := [_, _, _]) (d1 := 1) (pc1 := 15) (pc := 12) k_M_told_12 rfl (by decide) (Nat.le_of_ble_eq_true rfl) rfl o_M_within l_M_95 rfl (c_M_within (fun hw => ?_) (fun hw => ?_)) <;> try dsimp only [psh])
        | (with_reducible refine T_if_neN (tgt := 21) (pc1 := 18) (pc := 15) k_M_told_15 (by decide) (by decide) (by omega) (fun hc => ?_) (fun hc => ?_) <;> first | (exfalso; omega) | skip)
        | refine T_if_ne_t (tgt := 21) (pc := 15) k_M_told_15 rfl (by decide) ?_
        | refine T_if_ne_f (tgt := 21) (pc1 := 18) (pc := 15) k_M_told_15 rfl rfl (by decide) ?_
        | refine T_if_ne (tgt := 21) (pc1 := 18) (pc := 15) k_M_told_15 rfl rfl (fun hc => ?_) (fun hc => ?_)
        | refine T_ldc (v := (-1000000001)) (pc1 := 20) (pc := 18) k_M_told_18 rfl c_M_111 ?_
        | refine T_retI (pc := 20) k_M_told_20 rfl (by first | rfl | decide | assumption) ?_
        | refine T_iload_n (pc1 := 22) (pc := 21) k_M_told_21 rfl rfl ?_
        | (with_reducible refine swN_M_told_22 (by omega) (fun hc => ?_) (fun hc => ?_) (fun hc => ?_) (fun hc => ?_) (fun hc => ?_) <;> first | (exfalso; omega) | skip)
        | refine sw_M_told_22 (fun hc => ?_) (fun hc => ?_) (fun hc => ?_) (fun hc => ?_) (fun hc => ?_)
        | refine T_aload_n (pc1 := 53) (pc := 52) k_M_told_52 rfl rfl ?_
        | refine T_aload_nN (pc1 := 53) (pc := 52) k_M_told_52 rfl rfl ?_
        | refine T_iload_n (pc1 := 54) (pc := 53) k_M_told_53 rfl rfl ?_
        | (refine T_cV (As := [_]) (d1 := 4) (pc1 := 57) (pc := 54) k_M_told_54 rfl (by decide) (Nat.le_of_ble_eq_true rfl) rfl o_M_takes l_M_143 rfl (by first | exact ga G (by decide) rfl | assumption) rfl (c_M_takes G (by assumption) (by assumption) (by assumption) (fun J hJ => ?_)) <;> try dsimp only [psh])
        | refine T_retI (pc := 57) k_M_told_57 rfl (by first | rfl | decide | assumption) ?_
        | refine T_aload_n (pc1 := 59) (pc := 58) k_M_told_58 rfl rfl ?_
        | refine T_aload_nN (pc1 := 59) (pc := 58) k_M_told_58 rfl rfl ?_
        | refine T_iload_n (pc1 := 60) (pc := 59) k_M_told_59 rfl rfl ?_
        | (refine T_cV (As := [_]) (d1 := 3) (pc1 := 63) (pc := 60) k_M_told_60 rfl (by decide) (Nat.le_of_ble_eq_true rfl) rfl o_M_isBarred l_M_146 rfl (by first | exact ga G (by decide) rfl | assumption) rfl (c_M_isBarred G (by assumption) (by assumption) (by assumption) (fun hb1 => ?_) (fun hb1 => ?_)) <;> try dsimp only [psh])
        | (with_reducible refine T_if_eqN (tgt := 70) (pc1 := 66) (pc := 63) k_M_told_63 (by decide) (by decide) (by omega) (fun hc => ?_) (fun hc => ?_) <;> first | (exfalso; omega) | skip)
        | refine T_if_eq_t (tgt := 70) (pc := 63) k_M_told_63 rfl (by decide) ?_
        | refine T_if_eq_f (tgt := 70) (pc1 := 66) (pc := 63) k_M_told_63 rfl rfl (by decide) ?_
        | refine T_if_eq (tgt := 70) (pc1 := 66) (pc := 63) k_M_told_63 rfl rfl (fun hc => ?_) (fun hc => ?_)
        | refine T_iconst (v := (nI 1)) (pc1 := 67) (pc := 66) k_M_told_66 rfl (by decide) ?_
        | refine T_goto (tgt := 71) (pc := 67) k_M_told_67 rfl ?_
        | refine T_iconst (v := (nI 0)) (pc1 := 71) (pc := 70) k_M_told_70 rfl (by decide) ?_
        | refine T_retI (pc := 71) k_M_told_71 rfl (by first | rfl | decide | assumption) ?_
        | refine T_aload_n (pc1 := 73) (pc := 72) k_M_told_72 rfl rfl ?_
        | refine T_aload_nN (pc1 := 73) (pc := 72) k_M_told_72 rfl rfl ?_
        | refine T_iload_n (pc1 := 74) (pc := 73) k_M_told_73 rfl rfl ?_
        | (refine T_cV (As := [_]) (d1 := 3) (pc1 := 77) (pc := 74) k_M_told_74 rfl (by decide) (Nat.le_of_ble_eq_true rfl) rfl o_M_thinks l_M_149 rfl (by first | exact ga G (by decide) rfl | assumption) rfl (c_M_thinks G (by assumption) (by assumption) (by assumption) (fun J hJ => ?_)) <;> try dsimp only [psh])
        | refine T_retI (pc := 77) k_M_told_77 rfl (by first | rfl | decide | assumption) ?_
        | refine T_aload_n (pc1 := 79) (pc := 78) k_M_told_78 rfl rfl ?_
        | refine T_aload_nN (pc1 := 79) (pc := 78) k_M_told_78 rfl rfl ?_
        | refine T_iload_n (pc1 := 80) (pc := 79) k_M_told_79 rfl rfl ?_
        | refine T_iconst (v := (nI 0)) (pc1 := 81) (pc := 80) k_M_told_80 rfl (by decide) ?_
        | (refine T_cV (As := [_, _]) (d1 := 1) (pc1 := 84) (pc := 81) k_M_told_81 rfl (by decide) (Nat.le_of_ble_eq_true rfl) rfl o_M_bitIs l_M_124 rfl (by first | exact ga G (by decide) rfl | assumption) rfl (c_M_bitN G (by assumption) (by omega) (by omega) (by first | assumption | rfl) ?_) <;> try dsimp only [psh])
        | refine T_aload_n (pc1 := 85) (pc := 84) k_M_told_84 rfl rfl ?_
        | refine T_aload_nN (pc1 := 85) (pc := 84) k_M_told_84 rfl rfl ?_
        | refine T_iload_n (pc1 := 86) (pc := 85) k_M_told_85 rfl rfl ?_
        | refine T_iconst (v := (nI 3)) (pc1 := 87) (pc := 86) k_M_told_86 rfl (by decide) ?_
        | (refine T_cV (As := [_, _]) (d1 := 1) (pc1 := 90) (pc := 87) k_M_told_87 rfl (by decide) (Nat.le_of_ble_eq_true rfl) rfl o_M_bitIs l_M_124 rfl (by first | exact ga G (by decide) rfl | assumption) rfl (c_M_bitN G (by assumption) (by omega) (by omega) (by first | assumption | rfl) ?_) <;> try dsimp only [psh])
        | (refine T_cS (As := [_, _]) (d1 := 1) (pc1 := 93) (pc := 90) k_M_told_90 rfl (by decide) (Nat.le_of_ble_eq_true rfl) rfl o_M_worth l_M_152 rfl (c_M_worth (by omega) ?_) <;> try dsimp only [psh])
        | refine T_retI (pc := 93) k_M_told_93 rfl (by first | rfl | decide | assumption) ?_
        | refine T_aload_n (pc1 := 95) (pc := 94) k_M_told_94 rfl rfl ?_
        | refine T_aload_nN (pc1 := 95) (pc := 94) k_M_told_94 rfl rfl ?_
        | refine T_iload_n (pc1 := 96) (pc := 95) k_M_told_95 rfl rfl ?_
        | refine T_iload_n (pc1 := 97) (pc := 96) k_M_told_96 rfl rfl ?_
        | (refine T_cV (As := [_, _]) (d1 := 1) (pc1 := 100) (pc := 97) k_M_told_97 rfl (by decide) (Nat.le_of_ble_eq_true rfl) rfl o_M_bitIs l_M_124 rfl (by first | exact ga G (by decide) rfl | assumption) rfl (c_M_bitN G (by assumption) (by omega) (by omega) (by first | assumption | rfl) ?_) <;> try dsimp only [psh])
        | refine T_retI (pc := 100) k_M_told_100 rfl (by first | rfl | decide | assumption) ?_)
      all_goals first | exact kk _ _ eqx_rf (by show _ = if brd N j = true then nI 1 else nI 0; rw [hb1]; rfl) | (exfalso; apply hw; constructor <;> omega) | (exfalso; exact hw hok.1)
    by_cases q8 : q = 8
    · subst q8
      repeat' (first
        | refine T_aload_n (pc1 := 1) (pc := 0) k_M_told_0 rfl rfl ?_
        | refine T_aload_nN (pc1 := 1) (pc := 0) k_M_told_0 rfl rfl ?_
        | refine T_iload_n (pc1 := 2) (pc := 1) k_M_told_1 rfl rfl ?_
        | (refine T_cV (As := [_]) (d1 := 2) (pc1 := 5) (pc := 2) k_M_told_2 rfl (by decide) (Nat.le_of_ble_eq_true rfl) rfl o_M_isBit l_M_140 rfl (by first | exact ga G (by decide) rfl | assumption) rfl (c_M_isBit G hN hn h14 (fun hw => ?_) (fun hw => ?_)) <;> try dsimp only [psh])
        | (with_reducible refine T_if_eqN (tgt := 18) (pc1 := 8) (pc := 5) k_M_told_5 (by decide) (by decide) (by omega) (fun hc => ?_) (fun hc => ?_) <;> first | (exfalso; omega) | skip)
        | refine T_if_eq_t (tgt := 18) (pc := 5) k_M_told_5 rfl (by decide) ?_
        | refine T_if_eq_f (tgt := 18) (pc1 := 8) (pc := 5) k_M_told_5 rfl rfl (by decide) ?_
        | refine T_if_eq (tgt := 18) (pc1 := 8) (pc := 5) k_M_told_5 rfl rfl (fun hc => ?_) (fun hc => ?_)
        | refine T_iload_n (pc1 := 9) (pc := 8) k_M_told_8 rfl rfl ?_
        | refine T_iconst (v := (nI 0)) (pc1 := 10) (pc := 9) k_M_told_9 rfl (by decide) ?_
        | refine T_bipush (v := (nI 9)) (pc1 := 12) (pc := 10) k_M_told_10 rfl (by decide) ?_
        | (refine T_cS (As := [_, _, _]) (d1 := 1) (pc1 := 15) (pc := 12) k_M_told_12 rfl (by decide) (Nat.le_of_ble_eq_true rfl) rfl o_M_within l_M_95 rfl (c_M_within (fun hw => ?_) (fun hw => ?_)) <;> try dsimp only [psh])
        | (with_reducible refine T_if_neN (tgt := 21) (pc1 := 18) (pc := 15) k_M_told_15 (by decide) (by decide) (by omega) (fun hc => ?_) (fun hc => ?_) <;> first | (exfalso; omega) | skip)
        | refine T_if_ne_t (tgt := 21) (pc := 15) k_M_told_15 rfl (by decide) ?_
        | refine T_if_ne_f (tgt := 21) (pc1 := 18) (pc := 15) k_M_told_15 rfl rfl (by decide) ?_
        | refine T_if_ne (tgt := 21) (pc1 := 18) (pc := 15) k_M_told_15 rfl rfl (fun hc => ?_) (fun hc => ?_)
        | refine T_ldc (v := (-1000000001)) (pc1 := 20) (pc := 18) k_M_told_18 rfl c_M_111 ?_
        | refine T_retI (pc := 20) k_M_told_20 rfl (by first | rfl | decide | assumption) ?_
        | refine T_iload_n (pc1 := 22) (pc := 21) k_M_told_21 rfl rfl ?_
        | (with_reducible refine swN_M_told_22 (by omega) (fun hc => ?_) (fun hc => ?_) (fun hc => ?_) (fun hc => ?_) (fun hc => ?_) <;> first | (exfalso; omega) | skip)
        | refine sw_M_told_22 (fun hc => ?_) (fun hc => ?_) (fun hc => ?_) (fun hc => ?_) (fun hc => ?_)
        | refine T_aload_n (pc1 := 53) (pc := 52) k_M_told_52 rfl rfl ?_
        | refine T_aload_nN (pc1 := 53) (pc := 52) k_M_told_52 rfl rfl ?_
        | refine T_iload_n (pc1 := 54) (pc := 53) k_M_told_53 rfl rfl ?_
        | (refine T_cV (As := [_]) (d1 := 4) (pc1 := 57) (pc := 54) k_M_told_54 rfl (by decide) (Nat.le_of_ble_eq_true rfl) rfl o_M_takes l_M_143 rfl (by first | exact ga G (by decide) rfl | assumption) rfl (c_M_takes G (by assumption) (by assumption) (by assumption) (fun J hJ => ?_)) <;> try dsimp only [psh])
        | refine T_retI (pc := 57) k_M_told_57 rfl (by first | rfl | decide | assumption) ?_
        | refine T_aload_n (pc1 := 59) (pc := 58) k_M_told_58 rfl rfl ?_
        | refine T_aload_nN (pc1 := 59) (pc := 58) k_M_told_58 rfl rfl ?_
        | refine T_iload_n (pc1 := 60) (pc := 59) k_M_told_59 rfl rfl ?_
        | (refine T_cV (As := [_]) (d1 := 3) (pc1 := 63) (pc := 60) k_M_told_60 rfl (by decide) (Nat.le_of_ble_eq_true rfl) rfl o_M_isBarred l_M_146 rfl (by first | exact ga G (by decide) rfl | assumption) rfl (c_M_isBarred G (by assumption) (by assumption) (by assumption) (fun hb1 => ?_) (fun hb1 => ?_)) <;> try dsimp only [psh])
        | (with_reducible refine T_if_eqN (tgt := 70) (pc1 := 66) (pc := 63) k_M_told_63 (by decide) (by decide) (by omega) (fun hc => ?_) (fun hc => ?_) <;> first | (exfalso; omega) | skip)
        | refine T_if_eq_t (tgt := 70) (pc := 63) k_M_told_63 rfl (by decide) ?_
        | refine T_if_eq_f (tgt := 70) (pc1 := 66) (pc := 63) k_M_told_63 rfl rfl (by decide) ?_
        | refine T_if_eq (tgt := 70) (pc1 := 66) (pc := 63) k_M_told_63 rfl rfl (fun hc => ?_) (fun hc => ?_)
        | refine T_iconst (v := (nI 1)) (pc1 := 67) (pc := 66) k_M_told_66 rfl (by decide) ?_
        | refine T_goto (tgt := 71) (pc := 67) k_M_told_67 rfl ?_
        | refine T_iconst (v := (nI 0)) (pc1 := 71) (pc := 70) k_M_told_70 rfl (by decide) ?_
        | refine T_retI (pc := 71) k_M_told_71 rfl (by first | rfl | decide | assumption) ?_
        | refine T_aload_n (pc1 := 73) (pc := 72) k_M_told_72 rfl rfl ?_
        | refine T_aload_nN (pc1 := 73) (pc := 72) k_M_told_72 rfl rfl ?_
        | refine T_iload_n (pc1 := 74) (pc := 73) k_M_told_73 rfl rfl ?_
        | (refine T_cV (As := [_]) (d1 := 3) (pc1 := 77) (pc := 74) k_M_told_74 rfl (by decide) (Nat.le_of_ble_eq_true rfl) rfl o_M_thinks l_M_149 rfl (by first | exact ga G (by decide) rfl | assumption) rfl (c_M_thinks G (by assumption) (by assumption) (by assumption) (fun J hJ => ?_)) <;> try dsimp only [psh])
        | refine T_retI (pc := 77) k_M_told_77 rfl (by first | rfl | decide | assumption) ?_
        | refine T_aload_n (pc1 := 79) (pc := 78) k_M_told_78 rfl rfl ?_
        | refine T_aload_nN (pc1 := 79) (pc := 78) k_M_told_78 rfl rfl ?_
        | refine T_iload_n (pc1 := 80) (pc := 79) k_M_told_79 rfl rfl ?_
        | refine T_iconst (v := (nI 0)) (pc1 := 81) (pc := 80) k_M_told_80 rfl (by decide) ?_
        | (refine T_cV (As := [_, _]) (d1 := 1) (pc1 := 84) (pc := 81) k_M_told_81 rfl (by decide) (Nat.le_of_ble_eq_true rfl) rfl o_M_bitIs l_M_124 rfl (by first | exact ga G (by decide) rfl | assumption) rfl (c_M_bitN G (by assumption) (by omega) (by omega) (by first | assumption | rfl) ?_) <;> try dsimp only [psh])
        | refine T_aload_n (pc1 := 85) (pc := 84) k_M_told_84 rfl rfl ?_
        | refine T_aload_nN (pc1 := 85) (pc := 84) k_M_told_84 rfl rfl ?_
        | refine T_iload_n (pc1 := 86) (pc := 85) k_M_told_85 rfl rfl ?_
        | refine T_iconst (v := (nI 3)) (pc1 := 87) (pc := 86) k_M_told_86 rfl (by decide) ?_
        | (refine T_cV (As := [_, _]) (d1 := 1) (pc1 := 90) (pc := 87) k_M_told_87 rfl (by decide) (Nat.le_of_ble_eq_true rfl) rfl o_M_bitIs l_M_124 rfl (by first | exact ga G (by decide) rfl | assumption) rfl (c_M_bitN G (by assumption) (by omega) (by omega) (by first | assumption | rfl) ?_) <;> try dsimp only [psh])
        | (refine T_cS (As := [_, _]) (d1 := 1) (pc1 := 93) (pc := 90) k_M_told_90 rfl (by decide) (Nat.le_of_ble_eq_true rfl) rfl o_M_worth l_M_152 rfl (c_M_worth (by omega) ?_) <;> try dsimp only [psh])
        | refine T_retI (pc := 93) k_M_told_93 rfl (by first | rfl | decide | assumption) ?_
        | refine T_aload_n (pc1 := 95) (pc := 94) k_M_told_94 rfl rfl ?_
        | refine T_aload_nN (pc1 := 95) (pc := 94) k_M_told_94 rfl rfl ?_
        | refine T_iload_n (pc1 := 96) (pc := 95) k_M_told_95 rfl rfl ?_
        | refine T_iload_n (pc1 := 97) (pc := 96) k_M_told_96 rfl rfl ?_
        | (refine T_cV (As := [_, _]) (d1 := 1) (pc1 := 100) (pc := 97) k_M_told_97 rfl (by decide) (Nat.le_of_ble_eq_true rfl) rfl o_M_bitIs l_M_124 rfl (by first | exact ga G (by decide) rfl | assumption) rfl (c_M_bitN G (by assumption) (by omega) (by omega) (by first | assumption | rfl) ?_) <;> try dsimp only [psh])
        | refine T_retI (pc := 100) k_M_told_100 rfl (by first | rfl | decide | assumption) ?_)
      all_goals first | exact kk _ _ hJ rfl | (exfalso; apply hw; constructor <;> omega) | (exfalso; exact hw hok.1)
    by_cases q9 : q = 9
    · subst q9
      repeat' (first
        | refine T_aload_n (pc1 := 1) (pc := 0) k_M_told_0 rfl rfl ?_
        | refine T_aload_nN (pc1 := 1) (pc := 0) k_M_told_0 rfl rfl ?_
        | refine T_iload_n (pc1 := 2) (pc := 1) k_M_told_1 rfl rfl ?_
        | (refine T_cV (As := [_]) (d1 := 2) (pc1 := 5) (pc := 2) k_M_told_2 rfl (by decide) (Nat.le_of_ble_eq_true rfl) rfl o_M_isBit l_M_140 rfl (by first | exact ga G (by decide) rfl | assumption) rfl (c_M_isBit G hN hn h14 (fun hw => ?_) (fun hw => ?_)) <;> try dsimp only [psh])
        | (with_reducible refine T_if_eqN (tgt := 18) (pc1 := 8) (pc := 5) k_M_told_5 (by decide) (by decide) (by omega) (fun hc => ?_) (fun hc => ?_) <;> first | (exfalso; omega) | skip)
        | refine T_if_eq_t (tgt := 18) (pc := 5) k_M_told_5 rfl (by decide) ?_
        | refine T_if_eq_f (tgt := 18) (pc1 := 8) (pc := 5) k_M_told_5 rfl rfl (by decide) ?_
        | refine T_if_eq (tgt := 18) (pc1 := 8) (pc := 5) k_M_told_5 rfl rfl (fun hc => ?_) (fun hc => ?_)
        | refine T_iload_n (pc1 := 9) (pc := 8) k_M_told_8 rfl rfl ?_
        | refine T_iconst (v := (nI 0)) (pc1 := 10) (pc := 9) k_M_told_9 rfl (by decide) ?_
        | refine T_bipush (v := (nI 9)) (pc1 := 12) (pc := 10) k_M_told_10 rfl (by decide) ?_
        | (refine T_cS (As := [_, _, _]) (d1 := 1) (pc1 := 15) (pc := 12) k_M_told_12 rfl (by decide) (Nat.le_of_ble_eq_true rfl) rfl o_M_within l_M_95 rfl (c_M_within (fun hw => ?_) (fun hw => ?_)) <;> try dsimp only [psh])
        | (with_reducible refine T_if_neN (tgt := 21) (pc1 := 18) (pc := 15) k_M_told_15 (by decide) (by decide) (by omega) (fun hc => ?_) (fun hc => ?_) <;> first | (exfalso; omega) | skip)
        | refine T_if_ne_t (tgt := 21) (pc := 15) k_M_told_15 rfl (by decide) ?_
        | refine T_if_ne_f (tgt := 21) (pc1 := 18) (pc := 15) k_M_told_15 rfl rfl (by decide) ?_
        | refine T_if_ne (tgt := 21) (pc1 := 18) (pc := 15) k_M_told_15 rfl rfl (fun hc => ?_) (fun hc => ?_)
        | refine T_ldc (v := (-1000000001)) (pc1 := 20) (pc := 18) k_M_told_18 rfl c_M_111 ?_
        | refine T_retI (pc := 20) k_M_told_20 rfl (by first | rfl | decide | assumption) ?_
        | refine T_iload_n (pc1 := 22) (pc := 21) k_M_told_21 rfl rfl ?_
        | (with_reducible refine swN_M_told_22 (by omega) (fun hc => ?_) (fun hc => ?_) (fun hc => ?_) (fun hc => ?_) (fun hc => ?_) <;> first | (exfalso; omega) | skip)
        | refine sw_M_told_22 (fun hc => ?_) (fun hc => ?_) (fun hc => ?_) (fun hc => ?_) (fun hc => ?_)
        | refine T_aload_n (pc1 := 53) (pc := 52) k_M_told_52 rfl rfl ?_
        | refine T_aload_nN (pc1 := 53) (pc := 52) k_M_told_52 rfl rfl ?_
        | refine T_iload_n (pc1 := 54) (pc := 53) k_M_told_53 rfl rfl ?_
        | (refine T_cV (As := [_]) (d1 := 4) (pc1 := 57) (pc := 54) k_M_told_54 rfl (by decide) (Nat.le_of_ble_eq_true rfl) rfl o_M_takes l_M_143 rfl (by first | exact ga G (by decide) rfl | assumption) rfl (c_M_takes G (by assumption) (by assumption) (by assumption) (fun J hJ => ?_)) <;> try dsimp only [psh])
        | refine T_retI (pc := 57) k_M_told_57 rfl (by first | rfl | decide | assumption) ?_
        | refine T_aload_n (pc1 := 59) (pc := 58) k_M_told_58 rfl rfl ?_
        | refine T_aload_nN (pc1 := 59) (pc := 58) k_M_told_58 rfl rfl ?_
        | refine T_iload_n (pc1 := 60) (pc := 59) k_M_told_59 rfl rfl ?_
        | (refine T_cV (As := [_]) (d1 := 3) (pc1 := 63) (pc := 60) k_M_told_60 rfl (by decide) (Nat.le_of_ble_eq_true rfl) rfl o_M_isBarred l_M_146 rfl (by first | exact ga G (by decide) rfl | assumption) rfl (c_M_isBarred G (by assumption) (by assumption) (by assumption) (fun hb1 => ?_) (fun hb1 => ?_)) <;> try dsimp only [psh])
        | (with_reducible refine T_if_eqN (tgt := 70) (pc1 := 66) (pc := 63) k_M_told_63 (by decide) (by decide) (by omega) (fun hc => ?_) (fun hc => ?_) <;> first | (exfalso; omega) | skip)
        | refine T_if_eq_t (tgt := 70) (pc := 63) k_M_told_63 rfl (by decide) ?_
        | refine T_if_eq_f (tgt := 70) (pc1 := 66) (pc := 63) k_M_told_63 rfl rfl (by decide) ?_
        | refine T_if_eq (tgt := 70) (pc1 := 66) (pc := 63) k_M_told_63 rfl rfl (fun hc => ?_) (fun hc => ?_)
        | refine T_iconst (v := (nI 1)) (pc1 := 67) (pc := 66) k_M_told_66 rfl (by decide) ?_
        | refine T_goto (tgt := 71) (pc := 67) k_M_told_67 rfl ?_
        | refine T_iconst (v := (nI 0)) (pc1 := 71) (pc := 70) k_M_told_70 rfl (by decide) ?_
        | refine T_retI (pc := 71) k_M_told_71 rfl (by first | rfl | decide | assumption) ?_
        | refine T_aload_n (pc1 := 73) (pc := 72) k_M_told_72 rfl rfl ?_
        | refine T_aload_nN (pc1 := 73) (pc := 72) k_M_told_72 rfl rfl ?_
        | refine T_iload_n (pc1 := 74) (pc := 73) k_M_told_73 rfl rfl ?_
        | (refine T_cV (As := [_]) (d1 := 3) (pc1 := 77) (pc := 74) k_M_told_74 rfl (by decide) (Nat.le_of_ble_eq_true rfl) rfl o_M_thinks l_M_149 rfl (by first | exact ga G (by decide) rfl | assumption) rfl (c_M_thinks G (by assumption) (by assumption) (by assumption) (fun J hJ => ?_)) <;> try dsimp only [psh])
        | refine T_retI (pc := 77) k_M_told_77 rfl (by first | rfl | decide | assumption) ?_
        | refine T_aload_n (pc1 := 79) (pc := 78) k_M_told_78 rfl rfl ?_
        | refine T_aload_nN (pc1 := 79) (pc := 78) k_M_told_78 rfl rfl ?_
        | refine T_iload_n (pc1 := 80) (pc := 79) k_M_told_79 rfl rfl ?_
        | refine T_iconst (v := (nI 0)) (pc1 := 81) (pc := 80) k_M_told_80 rfl (by decide) ?_
        | (refine T_cV (As := [_, _]) (d1 := 1) (pc1 := 84) (pc := 81) k_M_told_81 rfl (by decide) (Nat.le_of_ble_eq_true rfl) rfl o_M_bitIs l_M_124 rfl (by first | exact ga G (by decide) rfl | assumption) rfl (c_M_bitN G (by assumption) (by omega) (by omega) (by first | assumption | rfl) ?_) <;> try dsimp only [psh])
        | refine T_aload_n (pc1 := 85) (pc := 84) k_M_told_84 rfl rfl ?_
        | refine T_aload_nN (pc1 := 85) (pc := 84) k_M_told_84 rfl rfl ?_
        | refine T_iload_n (pc1 := 86) (pc := 85) k_M_told_85 rfl rfl ?_
        | refine T_iconst (v := (nI 3)) (pc1 := 87) (pc := 86) k_M_told_86 rfl (by decide) ?_
        | (refine T_cV (As := [_, _]) (d1 := 1) (pc1 := 90) (pc := 87) k_M_told_87 rfl (by decide) (Nat.le_of_ble_eq_true rfl) rfl o_M_bitIs l_M_124 rfl (by first | exact ga G (by decide) rfl | assumption) rfl (c_M_bitN G (by assumption) (by omega) (by omega) (by first | assumption | rfl) ?_) <;> try dsimp only [psh])
        | (refine T_cS (As := [_, _]) (d1 := 1) (pc1 := 93) (pc := 90) k_M_told_90 rfl (by decide) (Nat.le_of_ble_eq_true rfl) rfl o_M_worth l_M_152 rfl (c_M_worth (by omega) ?_) <;> try dsimp only [psh])
        | refine T_retI (pc := 93) k_M_told_93 rfl (by first | rfl | decide | assumption) ?_
        | refine T_aload_n (pc1 := 95) (pc := 94) k_M_told_94 rfl rfl ?_
        | refine T_aload_nN (pc1 := 95) (pc := 94) k_M_told_94 rfl rfl ?_
        | refine T_iload_n (pc1 := 96) (pc := 95) k_M_told_95 rfl rfl ?_
        | refine T_iload_n (pc1 := 97) (pc := 96) k_M_told_96 rfl rfl ?_
        | (refine T_cV (As := [_, _]) (d1 := 1) (pc1 := 100) (pc := 97) k_M_told_97 rfl (by decide) (Nat.le_of_ble_eq_true rfl) rfl o_M_bitIs l_M_124 rfl (by first | exact ga G (by decide) rfl | assumption) rfl (c_M_bitN G (by assumption) (by omega) (by omega) (by first | assumption | rfl) ?_) <;> try dsimp only [psh])
        | refine T_retI (pc := 100) k_M_told_100 rfl (by first | rfl | decide | assumption) ?_)
      all_goals first | exact kk _ _ eqx_rf (by show _ = wthV (bf N j 0).toNatClampNeg (bf N j 3); rw [h0, nI_clamp (by omega)]) | (exfalso; apply hw; constructor <;> omega) | (exfalso; exact hw hok.1)
    have ev : toldV N tn j q = bf N j q := by rw [toldV, if_neg q6, if_neg q7, if_neg q8, if_neg q9]
    rw [ev] at kk
    repeat' (first
      | refine T_aload_n (pc1 := 1) (pc := 0) k_M_told_0 rfl rfl ?_
      | refine T_aload_nN (pc1 := 1) (pc := 0) k_M_told_0 rfl rfl ?_
      | refine T_iload_n (pc1 := 2) (pc := 1) k_M_told_1 rfl rfl ?_
      | (refine T_cV (As := [_]) (d1 := 2) (pc1 := 5) (pc := 2) k_M_told_2 rfl (by decide) (Nat.le_of_ble_eq_true rfl) rfl o_M_isBit l_M_140 rfl (by first | exact ga G (by decide) rfl | assumption) rfl (c_M_isBit G hN hn h14 (fun hw => ?_) (fun hw => ?_)) <;> try dsimp only [psh])
      | (with_reducible refine T_if_eqN (tgt := 18) (pc1 := 8) (pc := 5) k_M_told_5 (by decide) (by decide) (by omega) (fun hc => ?_) (fun hc => ?_) <;> first | (exfalso; omega) | skip)
      | refine T_if_eq_t (tgt := 18) (pc := 5) k_M_told_5 rfl (by decide) ?_
      | refine T_if_eq_f (tgt := 18) (pc1 := 8) (pc := 5) k_M_told_5 rfl rfl (by decide) ?_
      | refine T_if_eq (tgt := 18) (pc1 := 8) (pc := 5) k_M_told_5 rfl rfl (fun hc => ?_) (fun hc => ?_)
      | refine T_iload_n (pc1 := 9) (pc := 8) k_M_told_8 rfl rfl ?_
      | refine T_iconst (v := (nI 0)) (pc1 := 10) (pc := 9) k_M_told_9 rfl (by decide) ?_
      | refine T_bipush (v := (nI 9)) (pc1 := 12) (pc := 10) k_M_told_10 rfl (by decide) ?_
      | (refine T_cS (As := [_, _, _]) (d1 := 1) (pc1 := 15) (pc := 12) k_M_told_12 rfl (by decide) (Nat.le_of_ble_eq_true rfl) rfl o_M_within l_M_95 rfl (c_M_within (fun hw => ?_) (fun hw => ?_)) <;> try dsimp only [psh])
      | (with_reducible refine T_if_neN (tgt := 21) (pc1 := 18) (pc := 15) k_M_told_15 (by decide) (by decide) (by omega) (fun hc => ?_) (fun hc => ?_) <;> first | (exfalso; omega) | skip)
      | refine T_if_ne_t (tgt := 21) (pc := 15) k_M_told_15 rfl (by decide) ?_
      | refine T_if_ne_f (tgt := 21) (pc1 := 18) (pc := 15) k_M_told_15 rfl rfl (by decide) ?_
      | refine T_if_ne (tgt := 21) (pc1 := 18) (pc := 15) k_M_told_15 rfl rfl (fun hc => ?_) (fun hc => ?_)
      | refine T_ldc (v := (-1000000001)) (pc1 := 20) (pc := 18) k_M_told_18 rfl c_M_111 ?_
      | refine T_retI (pc := 20) k_M_told_20 rfl (by first | rfl | decide | assumption) ?_
      | refine T_iload_n (pc1 := 22) (pc := 21) k_M_told_21 rfl rfl ?_
      | (with_reducible refine swN_M_told_22 (by omega) (fun hc => ?_) (fun hc => ?_) (fun hc => ?_) (fun hc => ?_) (fun hc => ?_) <;> first | (exfalso; omega) | skip)
      | refine sw_M_told_22 (fun hc => ?_) (fun hc => ?_) (fun hc => ?_) (fun hc => ?_) (fun hc => ?_)
      | refine T_aload_n (pc1 := 53) (pc := 52) k_M_told_52 rfl rfl ?_
      | refine T_aload_nN (pc1 := 53) (pc := 52) k_M_told_52 rfl rfl ?_
      | refine T_iload_n (pc1 := 54) (pc := 53) k_M_told_53 rfl rfl ?_
      | (refine T_cV (As := [_]) (d1 := 4) (pc1 := 57) (pc := 54) k_M_told_54 rfl (by decide) (Nat.le_of_ble_eq_true rfl) rfl o_M_takes l_M_143 rfl (by first | exact ga G (by decide) rfl | assumption) rfl (c_M_takes G (by assumption) (by assumption) (by assumption) (fun J hJ => ?_)) <;> try dsimp only [psh])
      | refine T_retI (pc := 57) k_M_told_57 rfl (by first | rfl | decide | assumption) ?_
      | refine T_aload_n (pc1 := 59) (pc := 58) k_M_told_58 rfl rfl ?_
      | refine T_aload_nN (pc1 := 59) (pc := 58) k_M_told_58 rfl rfl ?_
      | refine T_iload_n (pc1 := 60) (pc := 59) k_M_told_59 rfl rfl ?_
      | (refine T_cV (As := [_]) (d1 := 3) (pc1 := 63) (pc := 60) k_M_told_60 rfl (by decide) (Nat.le_of_ble_eq_true rfl) rfl o_M_isBarred l_M_146 rfl (by first | exact ga G (by decide) rfl | assumption) rfl (c_M_isBarred G (by assumption) (by assumption) (by assumption) (fun hb1 => ?_) (fun hb1 => ?_)) <;> try dsimp only [psh])
      | (with_reducible refine T_if_eqN (tgt := 70) (pc1 := 66) (pc := 63) k_M_told_63 (by decide) (by decide) (by omega) (fun hc => ?_) (fun hc => ?_) <;> first | (exfalso; omega) | skip)
      | refine T_if_eq_t (tgt := 70) (pc := 63) k_M_told_63 rfl (by decide) ?_
      | refine T_if_eq_f (tgt := 70) (pc1 := 66) (pc := 63) k_M_told_63 rfl rfl (by decide) ?_
      | refine T_if_eq (tgt := 70) (pc1 := 66) (pc := 63) k_M_told_63 rfl rfl (fun hc => ?_) (fun hc => ?_)
      | refine T_iconst (v := (nI 1)) (pc1 := 67) (pc := 66) k_M_told_66 rfl (by decide) ?_
      | refine T_goto (tgt := 71) (pc := 67) k_M_told_67 rfl ?_
      | refine T_iconst (v := (nI 0)) (pc1 := 71) (pc := 70) k_M_told_70 rfl (by decide) ?_
      | refine T_retI (pc := 71) k_M_told_71 rfl (by first | rfl | decide | assumption) ?_
      | refine T_aload_n (pc1 := 73) (pc := 72) k_M_told_72 rfl rfl ?_
      | refine T_aload_nN (pc1 := 73) (pc := 72) k_M_told_72 rfl rfl ?_
      | refine T_iload_n (pc1 := 74) (pc := 73) k_M_told_73 rfl rfl ?_
      | (refine T_cV (As := [_]) (d1 := 3) (pc1 := 77) (pc := 74) k_M_told_74 rfl (by decide) (Nat.le_of_ble_eq_true rfl) rfl o_M_thinks l_M_149 rfl (by first | exact ga G (by decide) rfl | assumption) rfl (c_M_thinks G (by assumption) (by assumption) (by assumption) (fun J hJ => ?_)) <;> try dsimp only [psh])
      | refine T_retI (pc := 77) k_M_told_77 rfl (by first | rfl | decide | assumption) ?_
      | refine T_aload_n (pc1 := 79) (pc := 78) k_M_told_78 rfl rfl ?_
      | refine T_aload_nN (pc1 := 79) (pc := 78) k_M_told_78 rfl rfl ?_
      | refine T_iload_n (pc1 := 80) (pc := 79) k_M_told_79 rfl rfl ?_
      | refine T_iconst (v := (nI 0)) (pc1 := 81) (pc := 80) k_M_told_80 rfl (by decide) ?_
      | (refine T_cV (As := [_, _]) (d1 := 1) (pc1 := 84) (pc := 81) k_M_told_81 rfl (by decide) (Nat.le_of_ble_eq_true rfl) rfl o_M_bitIs l_M_124 rfl (by first | exact ga G (by decide) rfl | assumption) rfl (c_M_bitN G (by assumption) (by omega) (by omega) (by first | assumption | rfl) ?_) <;> try dsimp only [psh])
      | refine T_aload_n (pc1 := 85) (pc := 84) k_M_told_84 rfl rfl ?_
      | refine T_aload_nN (pc1 := 85) (pc := 84) k_M_told_84 rfl rfl ?_
      | refine T_iload_n (pc1 := 86) (pc := 85) k_M_told_85 rfl rfl ?_
      | refine T_iconst (v := (nI 3)) (pc1 := 87) (pc := 86) k_M_told_86 rfl (by decide) ?_
      | (refine T_cV (As := [_, _]) (d1 := 1) (pc1 := 90) (pc := 87) k_M_told_87 rfl (by decide) (Nat.le_of_ble_eq_true rfl) rfl o_M_bitIs l_M_124 rfl (by first | exact ga G (by decide) rfl | assumption) rfl (c_M_bitN G (by assumption) (by omega) (by omega) (by first | assumption | rfl) ?_) <;> try dsimp only [psh])
      | (refine T_cS (As := [_, _]) (d1 := 1) (pc1 := 93) (pc := 90) k_M_told_90 rfl (by decide) (Nat.le_of_ble_eq_true rfl) rfl o_M_worth l_M_152 rfl (c_M_worth (by omega) ?_) <;> try dsimp only [psh])
      | refine T_retI (pc := 93) k_M_told_93 rfl (by first | rfl | decide | assumption) ?_
      | refine T_aload_n (pc1 := 95) (pc := 94) k_M_told_94 rfl rfl ?_
      | refine T_aload_nN (pc1 := 95) (pc := 94) k_M_told_94 rfl rfl ?_
      | refine T_iload_n (pc1 := 96) (pc := 95) k_M_told_95 rfl rfl ?_
      | refine T_iload_n (pc1 := 97) (pc := 96) k_M_told_96 rfl rfl ?_
      | (refine T_cV (As := [_, _]) (d1 := 1) (pc1 := 100) (pc := 97) k_M_told_97 rfl (by decide) (Nat.le_of_ble_eq_true rfl) rfl o_M_bitIs l_M_124 rfl (by first | exact ga G (by decide) rfl | assumption) rfl (c_M_bitN G (by assumption) (by omega) (by omega) (by first | assumption | rfl) ?_) <;> try dsimp only [psh])
      | refine T_retI (pc := 100) k_M_told_100 rfl (by first | rfl | decide | assumption) ?_)
    all_goals first | exact kk _ _ eqx_rf rfl | (exfalso; apply hw; constructor <;> omega) | (exfalso; exact hw hok.1)
  · rw [toldA, if_neg hok] at kk
    repeat' (first
      | refine T_aload_n (pc1 := 1) (pc := 0) k_M_told_0 rfl rfl ?_
      | refine T_aload_nN (pc1 := 1) (pc := 0) k_M_told_0 rfl rfl ?_
      | refine T_iload_n (pc1 := 2) (pc := 1) k_M_told_1 rfl rfl ?_
      | (refine T_cV (As := [_]) (d1 := 2) (pc1 := 5) (pc := 2) k_M_told_2 rfl (by decide) (Nat.le_of_ble_eq_true rfl) rfl o_M_isBit l_M_140 rfl (by first | exact ga G (by decide) rfl | assumption) rfl (c_M_isBit G hN hn h14 (fun hw => ?_) (fun hw => ?_)) <;> try dsimp only [psh])
      | (with_reducible refine T_if_eqN (tgt := 18) (pc1 := 8) (pc := 5) k_M_told_5 (by decide) (by decide) (by omega) (fun hc => ?_) (fun hc => ?_) <;> first | (exfalso; omega) | skip)
      | refine T_if_eq_t (tgt := 18) (pc := 5) k_M_told_5 rfl (by decide) ?_
      | refine T_if_eq_f (tgt := 18) (pc1 := 8) (pc := 5) k_M_told_5 rfl rfl (by decide) ?_
      | refine T_if_eq (tgt := 18) (pc1 := 8) (pc := 5) k_M_told_5 rfl rfl (fun hc => ?_) (fun hc => ?_)
      | refine T_iload_n (pc1 := 9) (pc := 8) k_M_told_8 rfl rfl ?_
      | refine T_iconst (v := (nI 0)) (pc1 := 10) (pc := 9) k_M_told_9 rfl (by decide) ?_
      | refine T_bipush (v := (nI 9)) (pc1 := 12) (pc := 10) k_M_told_10 rfl (by decide) ?_
      | (refine T_cS (As := [_, _, _]) (d1 := 1) (pc1 := 15) (pc := 12) k_M_told_12 rfl (by decide) (Nat.le_of_ble_eq_true rfl) rfl o_M_within l_M_95 rfl (c_M_within (fun hw => ?_) (fun hw => ?_)) <;> try dsimp only [psh])
      | (with_reducible refine T_if_neN (tgt := 21) (pc1 := 18) (pc := 15) k_M_told_15 (by decide) (by decide) (by omega) (fun hc => ?_) (fun hc => ?_) <;> first | (exfalso; omega) | skip)
      | refine T_if_ne_t (tgt := 21) (pc := 15) k_M_told_15 rfl (by decide) ?_
      | refine T_if_ne_f (tgt := 21) (pc1 := 18) (pc := 15) k_M_told_15 rfl rfl (by decide) ?_
      | refine T_if_ne (tgt := 21) (pc1 := 18) (pc := 15) k_M_told_15 rfl rfl (fun hc => ?_) (fun hc => ?_)
      | refine T_ldc (v := (-1000000001)) (pc1 := 20) (pc := 18) k_M_told_18 rfl c_M_111 ?_
      | refine T_retI (pc := 20) k_M_told_20 rfl (by first | rfl | decide | assumption) ?_)
    all_goals first | exact kk _ _ eqx_rf rfl | (exfalso; exact hok ⟨by assumption, by constructor <;> omega⟩)
theorem c_M_walk {N : Row} {n tn : Nat} {f t : Int32} (G : GeoOK g) (hN : I 102 = N) (ok : okL N n tn) (kk : ∀ J r, eqx [102, 105, 106, 112, 113] I J → J 102 = walkN N n tn f t → r = walkA N n tn f t → K (some (.int r)) g J) : Cl 6 M_M_walk [.ref 101, .int f, .int t] g I K := by
  show Rl 6 M_M_walk 0 [some (.ref 101), some (.int f), some (.int t)] [] g I K
  by_cases hok : rg 8 f ∧ rg 8 t
  · rw [walkA, walkN, if_pos hok, if_pos hok] at kk
    obtain ⟨a, ha, rfl⟩ := rg_of hok.1 (by omega)
    obtain ⟨b, hb, rfl⟩ := rg_of hok.2 (by omega)
    rw [nI_clamp (by omega), nI_clamp (by omega)] at kk
    repeat' (first
      | refine T_iload_n (pc1 := 1) (pc := 0) k_M_walk_0 rfl rfl ?_
      | refine T_iload_n (pc1 := 2) (pc := 1) k_M_walk_1 rfl rfl ?_
      | (refine T_cS (As := [_, _]) (d1 := 3) (pc1 := 5) (pc := 2) k_M_walk_2 rfl (by decide) (Nat.le_of_ble_eq_true rfl) rfl o_M_areSpots l_M_107 rfl (c_M_areSpots (fun hw => ?_) (fun hw => ?_)) <;> try dsimp only [psh])
      | (with_reducible refine T_if_eqN (tgt := 17) (pc1 := 8) (pc := 5) k_M_walk_5 (by decide) (by decide) (by omega) (fun hc => ?_) (fun hc => ?_) <;> first | (exfalso; omega) | skip)
      | refine T_if_eq_t (tgt := 17) (pc := 5) k_M_walk_5 rfl (by decide) ?_
      | refine T_if_eq_f (tgt := 17) (pc1 := 8) (pc := 5) k_M_walk_5 rfl rfl (by decide) ?_
      | refine T_if_eq (tgt := 17) (pc1 := 8) (pc := 5) k_M_walk_5 rfl rfl (fun hc => ?_) (fun hc => ?_)
      | refine T_aload_n (pc1 := 9) (pc := 8) k_M_walk_8 rfl rfl ?_
      | refine T_aload_nN (pc1 := 9) (pc := 8) k_M_walk_8 rfl rfl ?_
      | refine T_iload_n (pc1 := 10) (pc := 9) k_M_walk_9 rfl rfl ?_
      | refine T_iload_n (pc1 := 11) (pc := 10) k_M_walk_10 rfl rfl ?_
      | (refine T_cV (As := [_, _]) (d1 := 5) (pc1 := 14) (pc := 11) k_M_walk_11 rfl (by decide) (Nat.le_of_ble_eq_true rfl) rfl o_M_walks l_M_174 rfl (by first | exact ga G (by decide) rfl | assumption) rfl (c_M_walks G hN ok ha hb (fun J hJ hJN => ?_)) <;> try dsimp only [psh])
      | refine T_goto (tgt := 19) (pc := 14) k_M_walk_14 rfl ?_
      | refine T_ldc (v := (-1000000001)) (pc1 := 19) (pc := 17) k_M_walk_17 rfl c_M_111 ?_
      | refine T_retI (pc := 19) k_M_walk_19 rfl (by first | rfl | decide | assumption) ?_)
    all_goals first | exact kk _ _ hJ hJN rfl | (exfalso; exact hw hok)
  · rw [walkA, walkN, if_neg hok, if_neg hok] at kk
    repeat' (first
      | refine T_iload_n (pc1 := 1) (pc := 0) k_M_walk_0 rfl rfl ?_
      | refine T_iload_n (pc1 := 2) (pc := 1) k_M_walk_1 rfl rfl ?_
      | (refine T_cS (As := [_, _]) (d1 := 3) (pc1 := 5) (pc := 2) k_M_walk_2 rfl (by decide) (Nat.le_of_ble_eq_true rfl) rfl o_M_areSpots l_M_107 rfl (c_M_areSpots (fun hw => ?_) (fun hw => ?_)) <;> try dsimp only [psh])
      | (with_reducible refine T_if_eqN (tgt := 17) (pc1 := 8) (pc := 5) k_M_walk_5 (by decide) (by decide) (by omega) (fun hc => ?_) (fun hc => ?_) <;> first | (exfalso; omega) | skip)
      | refine T_if_eq_t (tgt := 17) (pc := 5) k_M_walk_5 rfl (by decide) ?_
      | refine T_if_eq_f (tgt := 17) (pc1 := 8) (pc := 5) k_M_walk_5 rfl rfl (by decide) ?_
      | refine T_if_eq (tgt := 17) (pc1 := 8) (pc := 5) k_M_walk_5 rfl rfl (fun hc => ?_) (fun hc => ?_)
      | refine T_aload_n (pc1 := 9) (pc := 8) k_M_walk_8 rfl rfl ?_
      | refine T_aload_nN (pc1 := 9) (pc := 8) k_M_walk_8 rfl rfl ?_
      | refine T_iload_n (pc1 := 10) (pc := 9) k_M_walk_9 rfl rfl ?_
      | refine T_iload_n (pc1 := 11) (pc := 10) k_M_walk_10 rfl rfl ?_
      | refine T_goto (tgt := 19) (pc := 14) k_M_walk_14 rfl ?_
      | refine T_ldc (v := (-1000000001)) (pc1 := 19) (pc := 17) k_M_walk_17 rfl c_M_111 ?_
      | refine T_retI (pc := 19) k_M_walk_19 rfl (by first | rfl | decide | assumption) ?_)
    all_goals first | exact kk _ _ eqx_rf hN rfl | (exfalso; exact hok (by assumption))
theorem c_M_hush {N : Row} {n : Nat} (G : GeoOK g) (hN : I 102 = N) (hn : N 5 = nI n) (h14 : n ≤ 14) (kk : ∀ J, eqx [102] I J → J 102 = hsN N n → K (some (.int (nI (hsC N n)))) g J) : Cl 2 M_M_hush [.ref 101] g I K := by
  show Rl 2 M_M_hush 0 [some (.ref 101), none, none] [] g I K
  have loop : ∀ q b (J : IM), b + q = n → eqx [102] I J → J 102 = hsN N b → Rl 2 M_M_hush 4 [some (.ref 101), some (.int (nI (hsC N b))), some (.int (nI b))] [] g J K := by
    intro q
    induction q with
    | zero =>
      intro b J hb hJ hJN
      have hb : b = n := by omega
      subst hb
      have e5 : J 102 5 = nI b := by rw [hJN, hsN_ne _ (fun j hj => by omega)]; exact hn
      repeat' (first
        | refine T_iconst (v := (nI 0)) (pc1 := 1) (pc := 0) k_M_hush_0 rfl (by decide) ?_
        | refine T_istore_n (pc1 := 2) (pc := 1) k_M_hush_1 rfl (Nat.le_of_ble_eq_true rfl) ?_
        | refine T_iconst (v := (nI 0)) (pc1 := 3) (pc := 2) k_M_hush_2 rfl (by decide) ?_
        | refine T_istore_n (pc1 := 4) (pc := 3) k_M_hush_3 rfl (Nat.le_of_ble_eq_true rfl) ?_
        | refine T_iload_n (pc1 := 5) (pc := 4) k_M_hush_4 rfl rfl ?_
        | refine T_aload_n (pc1 := 6) (pc := 5) k_M_hush_5 rfl rfl ?_
        | refine T_aload_nN (pc1 := 6) (pc := 5) k_M_hush_5 rfl rfl ?_
        | refine T_getR (pc1 := 9) (pc := 6) k_M_hush_6 rfl f_M_9 rfl (by first | exact ga G (by decide) rfl | assumption) (by first | exact gr G (by decide) rfl | assumption) ?_
        | refine T_iconst (v := (nI 5)) (pc1 := 10) (pc := 9) k_M_hush_9 rfl (by decide) ?_
        | refine T_ialdN (pc1 := 11) (pc := 10) k_M_hush_10 rfl (by first | exact ga G (by decide) rfl | assumption) (by omega) (by omega) (by first | assumption | (simp (disch := omega) only [pI_eq, pI_row, pI_col, va_up_self, va_up_ne, ne_eq, not_false_eq_true, hN, h9] <;> rfl) | rfl) ?_
        | refine T_iald (pc1 := 11) (pc := 10) k_M_hush_10 rfl (by first | exact ga G (by decide) rfl | assumption) (by assumption) ?_
        | (with_reducible refine T_icmp_geN (tgt := 48) (pc1 := 14) (pc := 11) k_M_hush_11 (by decide) (by decide) (by omega) (by omega) (fun hc => ?_) (fun hc => ?_) <;> first | (exfalso; omega) | skip)
        | refine T_icmp_ge_t (tgt := 48) (pc := 11) k_M_hush_11 rfl (by decide) ?_
        | refine T_icmp_ge_f (tgt := 48) (pc1 := 14) (pc := 11) k_M_hush_11 rfl rfl (by decide) ?_
        | refine T_icmp_ge (tgt := 48) (pc1 := 14) (pc := 11) k_M_hush_11 rfl rfl (fun hc => ?_) (fun hc => ?_)
        | refine T_iload_n (pc1 := 15) (pc := 14) k_M_hush_14 rfl rfl ?_
        | refine T_aload_n (pc1 := 16) (pc := 15) k_M_hush_15 rfl rfl ?_
        | refine T_aload_nN (pc1 := 16) (pc := 15) k_M_hush_15 rfl rfl ?_
        | refine T_bipush (v := (nI 12)) (pc1 := 18) (pc := 16) k_M_hush_16 rfl (by decide) ?_
        | refine T_bipush (v := (nI 6)) (pc1 := 20) (pc := 18) k_M_hush_18 rfl (by decide) ?_
        | refine T_iload_n (pc1 := 21) (pc := 20) k_M_hush_20 rfl rfl ?_
        | with_reducible refine T_imulN (pc1 := 22) (pc := 21) k_M_hush_21 (by decide) ?_
        | refine T_imul (pc1 := 22) (pc := 21) k_M_hush_21 rfl ?_
        | with_reducible refine T_iaddN (pc1 := 23) (pc := 22) k_M_hush_22 (by decide) ?_
        | refine T_iadd (pc1 := 23) (pc := 22) k_M_hush_22 rfl ?_
        | refine T_iconst (v := (nI 5)) (pc1 := 24) (pc := 23) k_M_hush_23 rfl (by decide) ?_
        | with_reducible refine T_iaddN (pc1 := 25) (pc := 24) k_M_hush_24 (by decide) ?_
        | refine T_iadd (pc1 := 25) (pc := 24) k_M_hush_24 rfl ?_
        | refine T_ldc (v := (-1000000005)) (pc1 := 27) (pc := 25) k_M_hush_25 rfl c_M_103 ?_
        | (refine T_cV (As := [_, _]) (d1 := 1) (pc1 := 30) (pc := 27) k_M_hush_27 rfl (by decide) (Nat.le_of_ble_eq_true rfl) rfl o_M_become l_M_156 rfl (by first | exact ga G (by decide) rfl | assumption) rfl (c_M_become G (by omega) ?_) <;> try dsimp only [psh])
        | refine T_ldc (v := (-1000000005)) (pc1 := 32) (pc := 30) k_M_hush_30 rfl c_M_103 ?_
        | (with_reducible refine T_icmp_neN (tgt := 39) (pc1 := 35) (pc := 32) k_M_hush_32 (by decide) (by decide) (by omega) (by omega) (fun hc => ?_) (fun hc => ?_) <;> first | (exfalso; omega) | skip)
        | refine T_icmp_ne_t (tgt := 39) (pc := 32) k_M_hush_32 rfl (by decide) ?_
        | refine T_icmp_ne_f (tgt := 39) (pc1 := 35) (pc := 32) k_M_hush_32 rfl rfl (by decide) ?_
        | refine T_icmp_ne (tgt := 39) (pc1 := 35) (pc := 32) k_M_hush_32 rfl rfl (fun hc => ?_) (fun hc => ?_)
        | refine T_iconst (v := (nI 0)) (pc1 := 36) (pc := 35) k_M_hush_35 rfl (by decide) ?_
        | refine T_goto (tgt := 40) (pc := 36) k_M_hush_36 rfl ?_
        | refine T_iconst (v := (nI 1)) (pc1 := 40) (pc := 39) k_M_hush_39 rfl (by decide) ?_
        | with_reducible refine T_iaddN (pc1 := 41) (pc := 40) k_M_hush_40 (by decide) ?_
        | refine T_iadd (pc1 := 41) (pc := 40) k_M_hush_40 rfl ?_
        | refine T_istore_n (pc1 := 42) (pc := 41) k_M_hush_41 rfl (Nat.le_of_ble_eq_true rfl) ?_
        | refine T_iincN (b := 1) (pc1 := 45) (pc := 42) k_M_hush_42 rfl rfl (by decide) ?_
        | refine T_iinc (v := (nI 1)) (pc1 := 45) (pc := 42) k_M_hush_42 rfl rfl (by decide) ?_
        | refine T_goto (tgt := 4) (pc := 45) k_M_hush_45 rfl ?_
        | refine T_iload_n (pc1 := 49) (pc := 48) k_M_hush_48 rfl rfl ?_
        | refine T_retI (pc := 49) k_M_hush_49 rfl (by first | rfl | decide | assumption) ?_)
      exact kk J hJ hJN
    | succ q ih =>
      intro b J hb hJ hJN
      have e5 : J 102 5 = nI n := by rw [hJN, hsN_ne _ (fun j hj => by omega)]; exact hn
      have eb : J 102 (12 + 6 * b + 5) = bf N b 5 := by rw [hJN, hsN_ne _ (fun j hj => by omega)]; rfl
      have hle := hsC_le N b
      refine T_iload_n (pc1 := 5) (pc := 4) k_M_hush_4 rfl rfl ?_
      repeat' (first
        | refine T_iconst (v := (nI 0)) (pc1 := 1) (pc := 0) k_M_hush_0 rfl (by decide) ?_
        | refine T_istore_n (pc1 := 2) (pc := 1) k_M_hush_1 rfl (Nat.le_of_ble_eq_true rfl) ?_
        | refine T_iconst (v := (nI 0)) (pc1 := 3) (pc := 2) k_M_hush_2 rfl (by decide) ?_
        | refine T_istore_n (pc1 := 4) (pc := 3) k_M_hush_3 rfl (Nat.le_of_ble_eq_true rfl) ?_
        | refine T_aload_n (pc1 := 6) (pc := 5) k_M_hush_5 rfl rfl ?_
        | refine T_aload_nN (pc1 := 6) (pc := 5) k_M_hush_5 rfl rfl ?_
        | refine T_getR (pc1 := 9) (pc := 6) k_M_hush_6 rfl f_M_9 rfl (by first | exact ga G (by decide) rfl | assumption) (by first | exact gr G (by decide) rfl | assumption) ?_
        | refine T_iconst (v := (nI 5)) (pc1 := 10) (pc := 9) k_M_hush_9 rfl (by decide) ?_
        | refine T_ialdN (pc1 := 11) (pc := 10) k_M_hush_10 rfl (by first | exact ga G (by decide) rfl | assumption) (by omega) (by omega) (by first | assumption | (simp (disch := omega) only [pI_eq, pI_row, pI_col, va_up_self, va_up_ne, ne_eq, not_false_eq_true, hN, h9] <;> rfl) | rfl) ?_
        | refine T_iald (pc1 := 11) (pc := 10) k_M_hush_10 rfl (by first | exact ga G (by decide) rfl | assumption) (by assumption) ?_
        | (with_reducible refine T_icmp_geN (tgt := 48) (pc1 := 14) (pc := 11) k_M_hush_11 (by decide) (by decide) (by omega) (by omega) (fun hc => ?_) (fun hc => ?_) <;> first | (exfalso; omega) | skip)
        | refine T_icmp_ge_t (tgt := 48) (pc := 11) k_M_hush_11 rfl (by decide) ?_
        | refine T_icmp_ge_f (tgt := 48) (pc1 := 14) (pc := 11) k_M_hush_11 rfl rfl (by decide) ?_
        | refine T_icmp_ge (tgt := 48) (pc1 := 14) (pc := 11) k_M_hush_11 rfl rfl (fun hc => ?_) (fun hc => ?_)
        | refine T_iload_n (pc1 := 15) (pc := 14) k_M_hush_14 rfl rfl ?_
        | refine T_aload_n (pc1 := 16) (pc := 15) k_M_hush_15 rfl rfl ?_
        | refine T_aload_nN (pc1 := 16) (pc := 15) k_M_hush_15 rfl rfl ?_
        | refine T_bipush (v := (nI 12)) (pc1 := 18) (pc := 16) k_M_hush_16 rfl (by decide) ?_
        | refine T_bipush (v := (nI 6)) (pc1 := 20) (pc := 18) k_M_hush_18 rfl (by decide) ?_
        | refine T_iload_n (pc1 := 21) (pc := 20) k_M_hush_20 rfl rfl ?_
        | with_reducible refine T_imulN (pc1 := 22) (pc := 21) k_M_hush_21 (by decide) ?_
        | refine T_imul (pc1 := 22) (pc := 21) k_M_hush_21 rfl ?_
        | with_reducible refine T_iaddN (pc1 := 23) (pc := 22) k_M_hush_22 (by decide) ?_
        | refine T_iadd (pc1 := 23) (pc := 22) k_M_hush_22 rfl ?_
        | refine T_iconst (v := (nI 5)) (pc1 := 24) (pc := 23) k_M_hush_23 rfl (by decide) ?_
        | with_reducible refine T_iaddN (pc1 := 25) (pc := 24) k_M_hush_24 (by decide) ?_
        | refine T_iadd (pc1 := 25) (pc := 24) k_M_hush_24 rfl ?_
        | refine T_ldc (v := (-1000000005)) (pc1 := 27) (pc := 25) k_M_hush_25 rfl c_M_103 ?_
        | (refine T_cV (As := [_, _]) (d1 := 1) (pc1 := 30) (pc := 27) k_M_hush_27 rfl (by decide) (Nat.le_of_ble_eq_true rfl) rfl o_M_become l_M_156 rfl (by first | exact ga G (by decide) rfl | assumption) rfl (c_M_become G (by omega) ?_) <;> try dsimp only [psh])
        | refine T_ldc (v := (-1000000005)) (pc1 := 32) (pc := 30) k_M_hush_30 rfl c_M_103 ?_
        | refine T_iconst (v := (nI 0)) (pc1 := 36) (pc := 35) k_M_hush_35 rfl (by decide) ?_
        | refine T_goto (tgt := 40) (pc := 36) k_M_hush_36 rfl ?_
        | refine T_iconst (v := (nI 1)) (pc1 := 40) (pc := 39) k_M_hush_39 rfl (by decide) ?_
        | with_reducible refine T_iaddN (pc1 := 41) (pc := 40) k_M_hush_40 (by decide) ?_
        | refine T_iadd (pc1 := 41) (pc := 40) k_M_hush_40 rfl ?_
        | refine T_istore_n (pc1 := 42) (pc := 41) k_M_hush_41 rfl (Nat.le_of_ble_eq_true rfl) ?_
        | refine T_iincN (b := 1) (pc1 := 45) (pc := 42) k_M_hush_42 rfl rfl (by decide) ?_
        | refine T_iinc (v := (nI 1)) (pc1 := 45) (pc := 42) k_M_hush_42 rfl rfl (by decide) ?_
        | refine T_goto (tgt := 4) (pc := 45) k_M_hush_45 rfl ?_
        | refine T_iload_n (pc1 := 49) (pc := 48) k_M_hush_48 rfl rfl ?_
        | refine T_retI (pc := 49) k_M_hush_49 rfl (by first | rfl | decide | assumption) ?_)
      rw [eb]
      have ih := ih (b + 1) (pI J 102 (12 + 6 * b + 5) cNONE) (by omega) (eqx_pI hJ _ (by decide)) (by rw [pI_self, hJN]; rfl)
      repeat' (first
        | refine T_iconst (v := (nI 0)) (pc1 := 1) (pc := 0) k_M_hush_0 rfl (by decide) ?_
        | refine T_istore_n (pc1 := 2) (pc := 1) k_M_hush_1 rfl (Nat.le_of_ble_eq_true rfl) ?_
        | refine T_iconst (v := (nI 0)) (pc1 := 3) (pc := 2) k_M_hush_2 rfl (by decide) ?_
        | refine T_istore_n (pc1 := 4) (pc := 3) k_M_hush_3 rfl (Nat.le_of_ble_eq_true rfl) ?_
        | refine T_aload_n (pc1 := 6) (pc := 5) k_M_hush_5 rfl rfl ?_
        | refine T_aload_nN (pc1 := 6) (pc := 5) k_M_hush_5 rfl rfl ?_
        | refine T_getR (pc1 := 9) (pc := 6) k_M_hush_6 rfl f_M_9 rfl (by first | exact ga G (by decide) rfl | assumption) (by first | exact gr G (by decide) rfl | assumption) ?_
        | refine T_iconst (v := (nI 5)) (pc1 := 10) (pc := 9) k_M_hush_9 rfl (by decide) ?_
        | refine T_ialdN (pc1 := 11) (pc := 10) k_M_hush_10 rfl (by first | exact ga G (by decide) rfl | assumption) (by omega) (by omega) (by first | assumption | (simp (disch := omega) only [pI_eq, pI_row, pI_col, va_up_self, va_up_ne, ne_eq, not_false_eq_true, hN, h9] <;> rfl) | rfl) ?_
        | refine T_iald (pc1 := 11) (pc := 10) k_M_hush_10 rfl (by first | exact ga G (by decide) rfl | assumption) (by assumption) ?_
        | (with_reducible refine T_icmp_geN (tgt := 48) (pc1 := 14) (pc := 11) k_M_hush_11 (by decide) (by decide) (by omega) (by omega) (fun hc => ?_) (fun hc => ?_) <;> first | (exfalso; omega) | skip)
        | refine T_icmp_ge_t (tgt := 48) (pc := 11) k_M_hush_11 rfl (by decide) ?_
        | refine T_icmp_ge_f (tgt := 48) (pc1 := 14) (pc := 11) k_M_hush_11 rfl rfl (by decide) ?_
        | refine T_icmp_ge (tgt := 48) (pc1 := 14) (pc := 11) k_M_hush_11 rfl rfl (fun hc => ?_) (fun hc => ?_)
        | refine T_iload_n (pc1 := 15) (pc := 14) k_M_hush_14 rfl rfl ?_
        | refine T_aload_n (pc1 := 16) (pc := 15) k_M_hush_15 rfl rfl ?_
        | refine T_aload_nN (pc1 := 16) (pc := 15) k_M_hush_15 rfl rfl ?_
        | refine T_bipush (v := (nI 12)) (pc1 := 18) (pc := 16) k_M_hush_16 rfl (by decide) ?_
        | refine T_bipush (v := (nI 6)) (pc1 := 20) (pc := 18) k_M_hush_18 rfl (by decide) ?_
        | refine T_iload_n (pc1 := 21) (pc := 20) k_M_hush_20 rfl rfl ?_
        | with_reducible refine T_imulN (pc1 := 22) (pc := 21) k_M_hush_21 (by decide) ?_
        | refine T_imul (pc1 := 22) (pc := 21) k_M_hush_21 rfl ?_
        | with_reducible refine T_iaddN (pc1 := 23) (pc := 22) k_M_hush_22 (by decide) ?_
        | refine T_iadd (pc1 := 23) (pc := 22) k_M_hush_22 rfl ?_
        | refine T_iconst (v := (nI 5)) (pc1 := 24) (pc := 23) k_M_hush_23 rfl (by decide) ?_
        | with_reducible refine T_iaddN (pc1 := 25) (pc := 24) k_M_hush_24 (by decide) ?_
        | refine T_iadd (pc1 := 25) (pc := 24) k_M_hush_24 rfl ?_
        | refine T_ldc (v := (-1000000005)) (pc1 := 27) (pc := 25) k_M_hush_25 rfl c_M_103 ?_
        | (refine T_cV (As := [_, _]) (d1 := 1) (pc1 := 30) (pc := 27) k_M_hush_27 rfl (by decide) (Nat.le_of_ble_eq_true rfl) rfl o_M_become l_M_156 rfl (by first | exact ga G (by decide) rfl | assumption) rfl (c_M_become G (by omega) ?_) <;> try dsimp only [psh])
        | refine T_ldc (v := (-1000000005)) (pc1 := 32) (pc := 30) k_M_hush_30 rfl c_M_103 ?_
        | (with_reducible refine T_icmp_neN (tgt := 39) (pc1 := 35) (pc := 32) k_M_hush_32 (by decide) (by decide) (by omega) (by omega) (fun hc => ?_) (fun hc => ?_) <;> first | (exfalso; omega) | skip)
        | refine T_icmp_ne_t (tgt := 39) (pc := 32) k_M_hush_32 rfl (by decide) ?_
        | refine T_icmp_ne_f (tgt := 39) (pc1 := 35) (pc := 32) k_M_hush_32 rfl rfl (by decide) ?_
        | refine T_icmp_ne (tgt := 39) (pc1 := 35) (pc := 32) k_M_hush_32 rfl rfl (fun hc => ?_) (fun hc => ?_)
        | refine T_iconst (v := (nI 0)) (pc1 := 36) (pc := 35) k_M_hush_35 rfl (by decide) ?_
        | refine T_goto (tgt := 40) (pc := 36) k_M_hush_36 rfl ?_
        | refine T_iconst (v := (nI 1)) (pc1 := 40) (pc := 39) k_M_hush_39 rfl (by decide) ?_
        | with_reducible refine T_iaddN (pc1 := 41) (pc := 40) k_M_hush_40 (by decide) ?_
        | refine T_iadd (pc1 := 41) (pc := 40) k_M_hush_40 rfl ?_
        | refine T_istore_n (pc1 := 42) (pc := 41) k_M_hush_41 rfl (Nat.le_of_ble_eq_true rfl) ?_
        | refine T_iincN (b := 1) (pc1 := 45) (pc := 42) k_M_hush_42 rfl rfl (by decide) ?_
        | refine T_iinc (v := (nI 1)) (pc1 := 45) (pc := 42) k_M_hush_42 rfl rfl (by decide) ?_
        | refine T_goto (tgt := 4) (pc := 45) k_M_hush_45 rfl ?_
        | refine T_iload_n (pc1 := 49) (pc := 48) k_M_hush_48 rfl rfl ?_
        | refine T_retI (pc := 49) k_M_hush_49 rfl (by first | rfl | decide | assumption) ?_)
      · rw [hsC, if_neg (by assumption)] at ih
        exact ih
      · rw [hsC, if_pos (Decidable.not_not.mp (by assumption))] at ih
        exact ih
  repeat' (first
    | refine T_iconst (v := (nI 0)) (pc1 := 1) (pc := 0) k_M_hush_0 rfl (by decide) ?_
    | refine T_istore_n (pc1 := 2) (pc := 1) k_M_hush_1 rfl (Nat.le_of_ble_eq_true rfl) ?_
    | refine T_iconst (v := (nI 0)) (pc1 := 3) (pc := 2) k_M_hush_2 rfl (by decide) ?_
    | refine T_istore_n (pc1 := 4) (pc := 3) k_M_hush_3 rfl (Nat.le_of_ble_eq_true rfl) ?_
    | refine T_aload_n (pc1 := 6) (pc := 5) k_M_hush_5 rfl rfl ?_
    | refine T_aload_nN (pc1 := 6) (pc := 5) k_M_hush_5 rfl rfl ?_
    | refine T_getR (pc1 := 9) (pc := 6) k_M_hush_6 rfl f_M_9 rfl (by first | exact ga G (by decide) rfl | assumption) (by first | exact gr G (by decide) rfl | assumption) ?_
    | refine T_iconst (v := (nI 5)) (pc1 := 10) (pc := 9) k_M_hush_9 rfl (by decide) ?_
    | refine T_ialdN (pc1 := 11) (pc := 10) k_M_hush_10 rfl (by first | exact ga G (by decide) rfl | assumption) (by omega) (by omega) (by first | assumption | (simp (disch := omega) only [pI_eq, pI_row, pI_col, va_up_self, va_up_ne, ne_eq, not_false_eq_true, hN, h9] <;> rfl) | rfl) ?_
    | refine T_iald (pc1 := 11) (pc := 10) k_M_hush_10 rfl (by first | exact ga G (by decide) rfl | assumption) (by assumption) ?_
    | (with_reducible refine T_icmp_geN (tgt := 48) (pc1 := 14) (pc := 11) k_M_hush_11 (by decide) (by decide) (by omega) (by omega) (fun hc => ?_) (fun hc => ?_) <;> first | (exfalso; omega) | skip)
    | refine T_icmp_ge_t (tgt := 48) (pc := 11) k_M_hush_11 rfl (by decide) ?_
    | refine T_icmp_ge_f (tgt := 48) (pc1 := 14) (pc := 11) k_M_hush_11 rfl rfl (by decide) ?_
    | refine T_icmp_ge (tgt := 48) (pc1 := 14) (pc := 11) k_M_hush_11 rfl rfl (fun hc => ?_) (fun hc => ?_)
    | refine T_iload_n (pc1 := 15) (pc := 14) k_M_hush_14 rfl rfl ?_
    | refine T_aload_n (pc1 := 16) (pc := 15) k_M_hush_15 rfl rfl ?_
    | refine T_aload_nN (pc1 := 16) (pc := 15) k_M_hush_15 rfl rfl ?_
    | refine T_bipush (v := (nI 12)) (pc1 := 18) (pc := 16) k_M_hush_16 rfl (by decide) ?_
    | refine T_bipush (v := (nI 6)) (pc1 := 20) (pc := 18) k_M_hush_18 rfl (by decide) ?_
    | refine T_iload_n (pc1 := 21) (pc := 20) k_M_hush_20 rfl rfl ?_
    | with_reducible refine T_imulN (pc1 := 22) (pc := 21) k_M_hush_21 (by decide) ?_
    | refine T_imul (pc1 := 22) (pc := 21) k_M_hush_21 rfl ?_
    | with_reducible refine T_iaddN (pc1 := 23) (pc := 22) k_M_hush_22 (by decide) ?_
    | refine T_iadd (pc1 := 23) (pc := 22) k_M_hush_22 rfl ?_
    | refine T_iconst (v := (nI 5)) (pc1 := 24) (pc := 23) k_M_hush_23 rfl (by decide) ?_
    | with_reducible refine T_iaddN (pc1 := 25) (pc := 24) k_M_hush_24 (by decide) ?_
    | refine T_iadd (pc1 := 25) (pc := 24) k_M_hush_24 rfl ?_
    | refine T_ldc (v := (-1000000005)) (pc1 := 27) (pc := 25) k_M_hush_25 rfl c_M_103 ?_
    | (refine T_cV (As := [_, _]) (d1 := 1) (pc1 := 30) (pc := 27) k_M_hush_27 rfl (by decide) (Nat.le_of_ble_eq_true rfl) rfl o_M_become l_M_156 rfl (by first | exact ga G (by decide) rfl | assumption) rfl (c_M_become G (by omega) ?_) <;> try dsimp only [psh])
    | refine T_ldc (v := (-1000000005)) (pc1 := 32) (pc := 30) k_M_hush_30 rfl c_M_103 ?_
    | (with_reducible refine T_icmp_neN (tgt := 39) (pc1 := 35) (pc := 32) k_M_hush_32 (by decide) (by decide) (by omega) (by omega) (fun hc => ?_) (fun hc => ?_) <;> first | (exfalso; omega) | skip)
    | refine T_icmp_ne_t (tgt := 39) (pc := 32) k_M_hush_32 rfl (by decide) ?_
    | refine T_icmp_ne_f (tgt := 39) (pc1 := 35) (pc := 32) k_M_hush_32 rfl rfl (by decide) ?_
    | refine T_icmp_ne (tgt := 39) (pc1 := 35) (pc := 32) k_M_hush_32 rfl rfl (fun hc => ?_) (fun hc => ?_)
    | refine T_iconst (v := (nI 0)) (pc1 := 36) (pc := 35) k_M_hush_35 rfl (by decide) ?_
    | refine T_goto (tgt := 40) (pc := 36) k_M_hush_36 rfl ?_
    | refine T_iconst (v := (nI 1)) (pc1 := 40) (pc := 39) k_M_hush_39 rfl (by decide) ?_
    | with_reducible refine T_iaddN (pc1 := 41) (pc := 40) k_M_hush_40 (by decide) ?_
    | refine T_iadd (pc1 := 41) (pc := 40) k_M_hush_40 rfl ?_
    | refine T_istore_n (pc1 := 42) (pc := 41) k_M_hush_41 rfl (Nat.le_of_ble_eq_true rfl) ?_
    | refine T_iincN (b := 1) (pc1 := 45) (pc := 42) k_M_hush_42 rfl rfl (by decide) ?_
    | refine T_iinc (v := (nI 1)) (pc1 := 45) (pc := 42) k_M_hush_42 rfl rfl (by decide) ?_
    | refine T_goto (tgt := 4) (pc := 45) k_M_hush_45 rfl ?_
    | refine T_iload_n (pc1 := 49) (pc := 48) k_M_hush_48 rfl rfl ?_
    | refine T_retI (pc := 49) k_M_hush_49 rfl (by first | rfl | decide | assumption) ?_)
  exact loop n 0 I (by omega) eqx_rf hN
set_option maxHeartbeats 4000000 in
theorem c_M_bestOf {N : Row} {n tn fr to0 : Nat} {w : Int32} (G : GeoOK g) (hN : I 102 = N) (ok : okL N n tn) (hf : fr < 8) (ht : to0 < 8) (kk : ∀ J, eqx [105, 106, 112, 113] I J → (∀ v, v < 8 → J 106 v = nI (dst (ed N) (bcs N tn w) n to0 v)) → K (some (.int (nI (bst N n tn w fr to0)))) g J) : Cl 5 M_M_bestOf [.ref 101, .int (nI fr), .int (nI to0), .int w] g I K := by
  show Rl 5 M_M_bestOf 0 [some (.ref 101), some (.int (nI fr)), some (.int (nI to0)), some (.int w), none] [] g I K
  obtain ⟨hn, h14, -⟩ := id ok
  have loop : ∀ q b (J : IM), b + q = n → eqx [105, 112, 113] I J → (∀ j, j < b → J 105 j = nI (bcs N tn w j)) → Rl 5 M_M_bestOf 3 [some (.ref 101), some (.int (nI fr)), some (.int (nI to0)), some (.int w), some (.int (nI b))] [] g J K := by
    intro q
    induction q with
    | zero =>
      intro b J hb hJ hv
      have hb : b = n := by omega
      subst hb
      have hJN : J 102 = N := (hJ 102 (by decide)).trans hN
      repeat' (first
        | refine T_iconst (v := (nI 0)) (pc1 := 1) (pc := 0) k_M_bestOf_0 rfl (by decide) ?_
        | refine T_istore (pc1 := 3) (pc := 1) k_M_bestOf_1 rfl (Nat.le_of_ble_eq_true rfl) ?_
        | refine T_iload (pc1 := 5) (pc := 3) k_M_bestOf_3 rfl rfl ?_
        | refine T_aload_n (pc1 := 6) (pc := 5) k_M_bestOf_5 rfl rfl ?_
        | refine T_aload_nN (pc1 := 6) (pc := 5) k_M_bestOf_5 rfl rfl ?_
        | refine T_getR (pc1 := 9) (pc := 6) k_M_bestOf_6 rfl f_M_9 rfl (by first | exact ga G (by decide) rfl | assumption) (by first | exact gr G (by decide) rfl | assumption) ?_
        | refine T_iconst (v := (nI 5)) (pc1 := 10) (pc := 9) k_M_bestOf_9 rfl (by decide) ?_
        | refine T_ialdN (pc1 := 11) (pc := 10) k_M_bestOf_10 rfl (by first | exact ga G (by decide) rfl | assumption) (by omega) (by omega) (by first | assumption | (simp (disch := omega) only [pI_eq, pI_row, pI_col, va_up_self, va_up_ne, ne_eq, not_false_eq_true, hJN, hn] <;> rfl) | rfl) ?_
        | refine T_iald (pc1 := 11) (pc := 10) k_M_bestOf_10 rfl (by first | exact ga G (by decide) rfl | assumption) (by assumption) ?_
        | (with_reducible refine T_icmp_geN (tgt := 52) (pc1 := 14) (pc := 11) k_M_bestOf_11 (by decide) (by decide) (by omega) (by omega) (fun hc => ?_) (fun hc => ?_) <;> first | (exfalso; omega) | skip)
        | refine T_icmp_ge_t (tgt := 52) (pc := 11) k_M_bestOf_11 rfl (by decide) ?_
        | refine T_icmp_ge_f (tgt := 52) (pc1 := 14) (pc := 11) k_M_bestOf_11 rfl rfl (by decide) ?_
        | refine T_icmp_ge (tgt := 52) (pc1 := 14) (pc := 11) k_M_bestOf_11 rfl rfl (fun hc => ?_) (fun hc => ?_)
        | refine T_aload_n (pc1 := 15) (pc := 14) k_M_bestOf_14 rfl rfl ?_
        | refine T_aload_nN (pc1 := 15) (pc := 14) k_M_bestOf_14 rfl rfl ?_
        | refine T_getR (pc1 := 18) (pc := 15) k_M_bestOf_15 rfl f_M_19 rfl (by first | exact ga G (by decide) rfl | assumption) (by first | exact gr G (by decide) rfl | assumption) ?_
        | refine T_iload (pc1 := 20) (pc := 18) k_M_bestOf_18 rfl rfl ?_
        | refine T_iload (pc1 := 22) (pc := 20) k_M_bestOf_20 rfl rfl ?_
        | refine T_iload_n (pc1 := 23) (pc := 22) k_M_bestOf_22 rfl rfl ?_
        | (with_reducible refine T_icmp_eqN (tgt := 35) (pc1 := 26) (pc := 23) k_M_bestOf_23 (by decide) (by decide) (by omega) (by omega) (fun hc => ?_) (fun hc => ?_) <;> first | (exfalso; omega) | skip)
        | refine T_icmp_eq_t (tgt := 35) (pc := 23) k_M_bestOf_23 rfl (by decide) ?_
        | refine T_icmp_eq_f (tgt := 35) (pc1 := 26) (pc := 23) k_M_bestOf_23 rfl rfl (by decide) ?_
        | refine T_icmp_eq (tgt := 35) (pc1 := 26) (pc := 23) k_M_bestOf_23 rfl rfl (fun hc => ?_) (fun hc => ?_)
        | refine T_aload_n (pc1 := 27) (pc := 26) k_M_bestOf_26 rfl rfl ?_
        | refine T_aload_nN (pc1 := 27) (pc := 26) k_M_bestOf_26 rfl rfl ?_
        | refine T_iload (pc1 := 29) (pc := 27) k_M_bestOf_27 rfl rfl ?_
        | (refine T_cV (As := [_]) (d1 := 3) (pc1 := 32) (pc := 29) k_M_bestOf_29 rfl (by decide) (Nat.le_of_ble_eq_true rfl) rfl o_M_isBarred l_M_146 rfl (by first | exact ga G (by decide) rfl | assumption) rfl (c_M_isBarred G (by assumption) (by assumption) (by assumption) (fun hb1 => ?_) (fun hb1 => ?_)) <;> try dsimp only [psh])
        | (with_reducible refine T_if_eqN (tgt := 39) (pc1 := 35) (pc := 32) k_M_bestOf_32 (by decide) (by decide) (by omega) (fun hc => ?_) (fun hc => ?_) <;> first | (exfalso; omega) | skip)
        | refine T_if_eq_t (tgt := 39) (pc := 32) k_M_bestOf_32 rfl (by decide) ?_
        | refine T_if_eq_f (tgt := 39) (pc1 := 35) (pc := 32) k_M_bestOf_32 rfl rfl (by decide) ?_
        | refine T_if_eq (tgt := 39) (pc1 := 35) (pc := 32) k_M_bestOf_32 rfl rfl (fun hc => ?_) (fun hc => ?_)
        | refine T_iconst (v := (nI 0)) (pc1 := 36) (pc := 35) k_M_bestOf_35 rfl (by decide) ?_
        | refine T_goto (tgt := 45) (pc := 36) k_M_bestOf_36 rfl ?_
        | refine T_aload_n (pc1 := 40) (pc := 39) k_M_bestOf_39 rfl rfl ?_
        | refine T_aload_nN (pc1 := 40) (pc := 39) k_M_bestOf_39 rfl rfl ?_
        | refine T_iload (pc1 := 42) (pc := 40) k_M_bestOf_40 rfl rfl ?_
        | (refine T_cV (As := [_]) (d1 := 4) (pc1 := 45) (pc := 42) k_M_bestOf_42 rfl (by decide) (Nat.le_of_ble_eq_true rfl) rfl o_M_takes l_M_143 rfl (by first | exact ga G (by decide) rfl | assumption) rfl (c_M_takes G (by assumption) (by assumption) (by assumption) (fun J hJ => ?_)) <;> try dsimp only [psh])
        | refine T_iastN (pc1 := 46) (pc := 45) k_M_bestOf_45 rfl (by first | exact ga G (by decide) rfl | assumption) (by omega) (by omega) ?_
        | refine T_iincN (b := 1) (pc1 := 49) (pc := 46) k_M_bestOf_46 rfl rfl (by decide) ?_
        | refine T_iinc (v := (nI 1)) (pc1 := 49) (pc := 46) k_M_bestOf_46 rfl rfl (by decide) ?_
        | refine T_goto (tgt := 3) (pc := 49) k_M_bestOf_49 rfl ?_
        | refine T_aload_n (pc1 := 53) (pc := 52) k_M_bestOf_52 rfl rfl ?_
        | refine T_aload_nN (pc1 := 53) (pc := 52) k_M_bestOf_52 rfl rfl ?_
        | refine T_iload_n (pc1 := 54) (pc := 53) k_M_bestOf_53 rfl rfl ?_
        | (refine T_cV (As := [_]) (d1 := 2) (pc1 := 57) (pc := 54) k_M_bestOf_54 rfl (by decide) (Nat.le_of_ble_eq_true rfl) rfl o_M_findFar l_M_164 rfl (by first | exact ga G (by decide) rfl | assumption) rfl (c_M_findFar (c := bcs N tn w) G hJN ok ht hv (fun j hj => bcs_le ok hj) (fun J2 hJ2 hD => ?_)) <;> try dsimp only [psh])
        | refine T_aload_n (pc1 := 58) (pc := 57) k_M_bestOf_57 rfl rfl ?_
        | refine T_aload_nN (pc1 := 58) (pc := 57) k_M_bestOf_57 rfl rfl ?_
        | refine T_iload_n (pc1 := 62) (pc := 61) k_M_bestOf_61 rfl rfl ?_
        | refine T_ialdN (pc1 := 63) (pc := 62) k_M_bestOf_62 rfl (by first | exact ga G (by decide) rfl | assumption) (by omega) (by omega) (by first | assumption | (simp (disch := omega) only [pI_eq, pI_row, pI_col, va_up_self, va_up_ne, ne_eq, not_false_eq_true, hJN, hn] <;> rfl) | rfl) ?_
        | refine T_iald (pc1 := 63) (pc := 62) k_M_bestOf_62 rfl (by first | exact ga G (by decide) rfl | assumption) (by assumption) ?_
        | refine T_retI (pc := 63) k_M_bestOf_63 rfl (by first | rfl | decide | assumption) ?_)
      have e := hD fr hf
      repeat' (first
        | refine T_iconst (v := (nI 0)) (pc1 := 1) (pc := 0) k_M_bestOf_0 rfl (by decide) ?_
        | refine T_istore (pc1 := 3) (pc := 1) k_M_bestOf_1 rfl (Nat.le_of_ble_eq_true rfl) ?_
        | refine T_iload (pc1 := 5) (pc := 3) k_M_bestOf_3 rfl rfl ?_
        | refine T_aload_n (pc1 := 6) (pc := 5) k_M_bestOf_5 rfl rfl ?_
        | refine T_aload_nN (pc1 := 6) (pc := 5) k_M_bestOf_5 rfl rfl ?_
        | refine T_getR (pc1 := 9) (pc := 6) k_M_bestOf_6 rfl f_M_9 rfl (by first | exact ga G (by decide) rfl | assumption) (by first | exact gr G (by decide) rfl | assumption) ?_
        | refine T_iconst (v := (nI 5)) (pc1 := 10) (pc := 9) k_M_bestOf_9 rfl (by decide) ?_
        | refine T_ialdN (pc1 := 11) (pc := 10) k_M_bestOf_10 rfl (by first | exact ga G (by decide) rfl | assumption) (by omega) (by omega) (by first | assumption | (simp (disch := omega) only [pI_eq, pI_row, pI_col, va_up_self, va_up_ne, ne_eq, not_false_eq_true, hJN, hn] <;> rfl) | rfl) ?_
        | refine T_iald (pc1 := 11) (pc := 10) k_M_bestOf_10 rfl (by first | exact ga G (by decide) rfl | assumption) (by assumption) ?_
        | (with_reducible refine T_icmp_geN (tgt := 52) (pc1 := 14) (pc := 11) k_M_bestOf_11 (by decide) (by decide) (by omega) (by omega) (fun hc => ?_) (fun hc => ?_) <;> first | (exfalso; omega) | skip)
        | refine T_icmp_ge_t (tgt := 52) (pc := 11) k_M_bestOf_11 rfl (by decide) ?_
        | refine T_icmp_ge_f (tgt := 52) (pc1 := 14) (pc := 11) k_M_bestOf_11 rfl rfl (by decide) ?_
        | refine T_icmp_ge (tgt := 52) (pc1 := 14) (pc := 11) k_M_bestOf_11 rfl rfl (fun hc => ?_) (fun hc => ?_)
        | refine T_aload_n (pc1 := 15) (pc := 14) k_M_bestOf_14 rfl rfl ?_
        | refine T_aload_nN (pc1 := 15) (pc := 14) k_M_bestOf_14 rfl rfl ?_
        | refine T_getR (pc1 := 18) (pc := 15) k_M_bestOf_15 rfl f_M_19 rfl (by first | exact ga G (by decide) rfl | assumption) (by first | exact gr G (by decide) rfl | assumption) ?_
        | refine T_iload (pc1 := 20) (pc := 18) k_M_bestOf_18 rfl rfl ?_
        | refine T_iload (pc1 := 22) (pc := 20) k_M_bestOf_20 rfl rfl ?_
        | refine T_iload_n (pc1 := 23) (pc := 22) k_M_bestOf_22 rfl rfl ?_
        | (with_reducible refine T_icmp_eqN (tgt := 35) (pc1 := 26) (pc := 23) k_M_bestOf_23 (by decide) (by decide) (by omega) (by omega) (fun hc => ?_) (fun hc => ?_) <;> first | (exfalso; omega) | skip)
        | refine T_icmp_eq_t (tgt := 35) (pc := 23) k_M_bestOf_23 rfl (by decide) ?_
        | refine T_icmp_eq_f (tgt := 35) (pc1 := 26) (pc := 23) k_M_bestOf_23 rfl rfl (by decide) ?_
        | refine T_icmp_eq (tgt := 35) (pc1 := 26) (pc := 23) k_M_bestOf_23 rfl rfl (fun hc => ?_) (fun hc => ?_)
        | refine T_aload_n (pc1 := 27) (pc := 26) k_M_bestOf_26 rfl rfl ?_
        | refine T_aload_nN (pc1 := 27) (pc := 26) k_M_bestOf_26 rfl rfl ?_
        | refine T_iload (pc1 := 29) (pc := 27) k_M_bestOf_27 rfl rfl ?_
        | (refine T_cV (As := [_]) (d1 := 3) (pc1 := 32) (pc := 29) k_M_bestOf_29 rfl (by decide) (Nat.le_of_ble_eq_true rfl) rfl o_M_isBarred l_M_146 rfl (by first | exact ga G (by decide) rfl | assumption) rfl (c_M_isBarred G (by assumption) (by assumption) (by assumption) (fun hb1 => ?_) (fun hb1 => ?_)) <;> try dsimp only [psh])
        | (with_reducible refine T_if_eqN (tgt := 39) (pc1 := 35) (pc := 32) k_M_bestOf_32 (by decide) (by decide) (by omega) (fun hc => ?_) (fun hc => ?_) <;> first | (exfalso; omega) | skip)
        | refine T_if_eq_t (tgt := 39) (pc := 32) k_M_bestOf_32 rfl (by decide) ?_
        | refine T_if_eq_f (tgt := 39) (pc1 := 35) (pc := 32) k_M_bestOf_32 rfl rfl (by decide) ?_
        | refine T_if_eq (tgt := 39) (pc1 := 35) (pc := 32) k_M_bestOf_32 rfl rfl (fun hc => ?_) (fun hc => ?_)
        | refine T_iconst (v := (nI 0)) (pc1 := 36) (pc := 35) k_M_bestOf_35 rfl (by decide) ?_
        | refine T_goto (tgt := 45) (pc := 36) k_M_bestOf_36 rfl ?_
        | refine T_aload_n (pc1 := 40) (pc := 39) k_M_bestOf_39 rfl rfl ?_
        | refine T_aload_nN (pc1 := 40) (pc := 39) k_M_bestOf_39 rfl rfl ?_
        | refine T_iload (pc1 := 42) (pc := 40) k_M_bestOf_40 rfl rfl ?_
        | (refine T_cV (As := [_]) (d1 := 4) (pc1 := 45) (pc := 42) k_M_bestOf_42 rfl (by decide) (Nat.le_of_ble_eq_true rfl) rfl o_M_takes l_M_143 rfl (by first | exact ga G (by decide) rfl | assumption) rfl (c_M_takes G (by assumption) (by assumption) (by assumption) (fun J hJ => ?_)) <;> try dsimp only [psh])
        | refine T_iastN (pc1 := 46) (pc := 45) k_M_bestOf_45 rfl (by first | exact ga G (by decide) rfl | assumption) (by omega) (by omega) ?_
        | refine T_iincN (b := 1) (pc1 := 49) (pc := 46) k_M_bestOf_46 rfl rfl (by decide) ?_
        | refine T_iinc (v := (nI 1)) (pc1 := 49) (pc := 46) k_M_bestOf_46 rfl rfl (by decide) ?_
        | refine T_goto (tgt := 3) (pc := 49) k_M_bestOf_49 rfl ?_
        | refine T_aload_n (pc1 := 53) (pc := 52) k_M_bestOf_52 rfl rfl ?_
        | refine T_aload_nN (pc1 := 53) (pc := 52) k_M_bestOf_52 rfl rfl ?_
        | refine T_iload_n (pc1 := 54) (pc := 53) k_M_bestOf_53 rfl rfl ?_
        | (refine T_cV (As := [_]) (d1 := 2) (pc1 := 57) (pc := 54) k_M_bestOf_54 rfl (by decide) (Nat.le_of_ble_eq_true rfl) rfl o_M_findFar l_M_164 rfl (by first | exact ga G (by decide) rfl | assumption) rfl (c_M_findFar (c := bcs N tn w) G hJN ok ht hv (fun j hj => bcs_le ok hj) (fun J2 hJ2 hD => ?_)) <;> try dsimp only [psh])
        | refine T_aload_n (pc1 := 58) (pc := 57) k_M_bestOf_57 rfl rfl ?_
        | refine T_aload_nN (pc1 := 58) (pc := 57) k_M_bestOf_57 rfl rfl ?_
        | refine T_getR (pc1 := 61) (pc := 58) k_M_bestOf_58 rfl f_M_22 rfl (by first | exact ga G (by decide) rfl | assumption) (by first | exact gr G (by decide) rfl | assumption) ?_
        | refine T_iload_n (pc1 := 62) (pc := 61) k_M_bestOf_61 rfl rfl ?_
        | refine T_ialdN (pc1 := 63) (pc := 62) k_M_bestOf_62 rfl (by first | exact ga G (by decide) rfl | assumption) (by omega) (by omega) (by first | assumption | (simp (disch := omega) only [pI_eq, pI_row, pI_col, va_up_self, va_up_ne, ne_eq, not_false_eq_true, hJN, hn] <;> rfl) | rfl) ?_
        | refine T_iald (pc1 := 63) (pc := 62) k_M_bestOf_62 rfl (by first | exact ga G (by decide) rfl | assumption) (by assumption) ?_
        | refine T_retI (pc := 63) k_M_bestOf_63 rfl (by first | rfl | decide | assumption) ?_)
      exact kk J2 (eqx_tr (eqx_mono hJ (by decide)) (eqx_mono hJ2 (by decide))) hD
    | succ q ih =>
      intro b J hb hJ hv
      have hJN : J 102 = N := (hJ 102 (by decide)).trans hN
      have hbn : b < n := by omega
      have nx : ∀ (J2 : IM) (v : Int32), eqx [105, 112, 113] I J2 → (∀ j, j < b → J2 105 j = nI (bcs N tn w j)) → v = nI (bcs N tn w b) → Rl 5 M_M_bestOf 3 [some (.ref 101), some (.int (nI fr)), some (.int (nI to0)), some (.int w), some (.int (nI (b + 1)))] [] g (pI J2 105 b v) K := by
        intro J2 v h1 h2 h3
        refine ih (b + 1) _ (by omega) (eqx_pI h1 _ (by decide)) (fun j hj => ?_)
        rw [pI_self]
        by_cases h : j = b
        · subst h; rw [va_up_self]; exact h3
        · rw [va_up_ne _ _ h]; exact h2 j (by omega)
      refine T_iload (pc1 := 5) (pc := 3) k_M_bestOf_3 rfl rfl ?_
      repeat' (first
        | refine T_iconst (v := (nI 0)) (pc1 := 1) (pc := 0) k_M_bestOf_0 rfl (by decide) ?_
        | refine T_istore (pc1 := 3) (pc := 1) k_M_bestOf_1 rfl (Nat.le_of_ble_eq_true rfl) ?_
        | refine T_aload_n (pc1 := 6) (pc := 5) k_M_bestOf_5 rfl rfl ?_
        | refine T_aload_nN (pc1 := 6) (pc := 5) k_M_bestOf_5 rfl rfl ?_
        | refine T_getR (pc1 := 9) (pc := 6) k_M_bestOf_6 rfl f_M_9 rfl (by first | exact ga G (by decide) rfl | assumption) (by first | exact gr G (by decide) rfl | assumption) ?_
        | refine T_iconst (v := (nI 5)) (pc1 := 10) (pc := 9) k_M_bestOf_9 rfl (by decide) ?_
        | refine T_ialdN (pc1 := 11) (pc := 10) k_M_bestOf_10 rfl (by first | exact ga G (by decide) rfl | assumption) (by omega) (by omega) (by first | assumption | (simp (disch := omega) only [pI_eq, pI_row, pI_col, va_up_self, va_up_ne, ne_eq, not_false_eq_true, hJN, hn] <;> rfl) | rfl) ?_
        | refine T_iald (pc1 := 11) (pc := 10) k_M_bestOf_10 rfl (by first | exact ga G (by decide) rfl | assumption) (by assumption) ?_
        | (with_reducible refine T_icmp_geN (tgt := 52) (pc1 := 14) (pc := 11) k_M_bestOf_11 (by decide) (by decide) (by omega) (by omega) (fun hc => ?_) (fun hc => ?_) <;> first | (exfalso; omega) | skip)
        | refine T_icmp_ge_t (tgt := 52) (pc := 11) k_M_bestOf_11 rfl (by decide) ?_
        | refine T_icmp_ge_f (tgt := 52) (pc1 := 14) (pc := 11) k_M_bestOf_11 rfl rfl (by decide) ?_
        | refine T_icmp_ge (tgt := 52) (pc1 := 14) (pc := 11) k_M_bestOf_11 rfl rfl (fun hc => ?_) (fun hc => ?_)
        | refine T_aload_n (pc1 := 15) (pc := 14) k_M_bestOf_14 rfl rfl ?_
        | refine T_aload_nN (pc1 := 15) (pc := 14) k_M_bestOf_14 rfl rfl ?_
        | refine T_getR (pc1 := 18) (pc := 15) k_M_bestOf_15 rfl f_M_19 rfl (by first | exact ga G (by decide) rfl | assumption) (by first | exact gr G (by decide) rfl | assumption) ?_
        | refine T_iload (pc1 := 20) (pc := 18) k_M_bestOf_18 rfl rfl ?_
        | refine T_iload (pc1 := 22) (pc := 20) k_M_bestOf_20 rfl rfl ?_
        | refine T_iload_n (pc1 := 23) (pc := 22) k_M_bestOf_22 rfl rfl ?_
        | (with_reducible refine T_icmp_eqN (tgt := 35) (pc1 := 26) (pc := 23) k_M_bestOf_23 (by decide) (by decide) (by omega) (by omega) (fun hc => ?_) (fun hc => ?_) <;> first | (exfalso; omega) | skip)
        | refine T_icmp_eq_t (tgt := 35) (pc := 23) k_M_bestOf_23 rfl (by decide) ?_
        | refine T_icmp_eq_f (tgt := 35) (pc1 := 26) (pc := 23) k_M_bestOf_23 rfl rfl (by decide) ?_
        | refine T_icmp_eq (tgt := 35) (pc1 := 26) (pc := 23) k_M_bestOf_23 rfl rfl (fun hc => ?_) (fun hc => ?_)
        | refine T_aload_n (pc1 := 27) (pc := 26) k_M_bestOf_26 rfl rfl ?_
        | refine T_aload_nN (pc1 := 27) (pc := 26) k_M_bestOf_26 rfl rfl ?_
        | refine T_iload (pc1 := 29) (pc := 27) k_M_bestOf_27 rfl rfl ?_
        | (refine T_cV (As := [_]) (d1 := 3) (pc1 := 32) (pc := 29) k_M_bestOf_29 rfl (by decide) (Nat.le_of_ble_eq_true rfl) rfl o_M_isBarred l_M_146 rfl (by first | exact ga G (by decide) rfl | assumption) rfl (c_M_isBarred G hJN ok hbn (fun hb1 => ?_) (fun hb1 => ?_)) <;> try dsimp only [psh])
        | (with_reducible refine T_if_eqN (tgt := 39) (pc1 := 35) (pc := 32) k_M_bestOf_32 (by decide) (by decide) (by omega) (fun hc => ?_) (fun hc => ?_) <;> first | (exfalso; omega) | skip)
        | refine T_if_eq_t (tgt := 39) (pc := 32) k_M_bestOf_32 rfl (by decide) ?_
        | refine T_if_eq_f (tgt := 39) (pc1 := 35) (pc := 32) k_M_bestOf_32 rfl rfl (by decide) ?_
        | refine T_if_eq (tgt := 39) (pc1 := 35) (pc := 32) k_M_bestOf_32 rfl rfl (fun hc => ?_) (fun hc => ?_)
        | refine T_iconst (v := (nI 0)) (pc1 := 36) (pc := 35) k_M_bestOf_35 rfl (by decide) ?_
        | refine T_goto (tgt := 45) (pc := 36) k_M_bestOf_36 rfl ?_
        | refine T_aload_n (pc1 := 40) (pc := 39) k_M_bestOf_39 rfl rfl ?_
        | refine T_aload_nN (pc1 := 40) (pc := 39) k_M_bestOf_39 rfl rfl ?_
        | refine T_iload (pc1 := 42) (pc := 40) k_M_bestOf_40 rfl rfl ?_
        | (refine T_cV (As := [_]) (d1 := 4) (pc1 := 45) (pc := 42) k_M_bestOf_42 rfl (by decide) (Nat.le_of_ble_eq_true rfl) rfl o_M_takes l_M_143 rfl (by first | exact ga G (by decide) rfl | assumption) rfl (c_M_takesN G hJN ok hbn (fun J2 hJ2 => ?_)) <;> try dsimp only [psh])
        | refine T_iastN (pc1 := 46) (pc := 45) k_M_bestOf_45 rfl (by first | exact ga G (by decide) rfl | assumption) (by omega) (by omega) ?_
        | refine T_iincN (b := 1) (pc1 := 49) (pc := 46) k_M_bestOf_46 rfl rfl (by decide) ?_
        | refine T_iinc (v := (nI 1)) (pc1 := 49) (pc := 46) k_M_bestOf_46 rfl rfl (by decide) ?_
        | refine T_goto (tgt := 3) (pc := 49) k_M_bestOf_49 rfl ?_
        | refine T_aload_n (pc1 := 53) (pc := 52) k_M_bestOf_52 rfl rfl ?_
        | refine T_aload_nN (pc1 := 53) (pc := 52) k_M_bestOf_52 rfl rfl ?_
        | refine T_iload_n (pc1 := 54) (pc := 53) k_M_bestOf_53 rfl rfl ?_
        | (refine T_cV (As := [_]) (d1 := 2) (pc1 := 57) (pc := 54) k_M_bestOf_54 rfl (by decide) (Nat.le_of_ble_eq_true rfl) rfl o_M_findFar l_M_164 rfl (by first | exact ga G (by decide) rfl | assumption) rfl (c_M_findFar (c := bcs N tn w) G hJN ok ht hv (fun j hj => bcs_le ok hj) (fun J2 hJ2 hD => ?_)) <;> try dsimp only [psh])
        | refine T_aload_n (pc1 := 58) (pc := 57) k_M_bestOf_57 rfl rfl ?_
        | refine T_aload_nN (pc1 := 58) (pc := 57) k_M_bestOf_57 rfl rfl ?_
        | refine T_getR (pc1 := 61) (pc := 58) k_M_bestOf_58 rfl f_M_22 rfl (by first | exact ga G (by decide) rfl | assumption) (by first | exact gr G (by decide) rfl | assumption) ?_
        | refine T_iload_n (pc1 := 62) (pc := 61) k_M_bestOf_61 rfl rfl ?_
        | refine T_ialdN (pc1 := 63) (pc := 62) k_M_bestOf_62 rfl (by first | exact ga G (by decide) rfl | assumption) (by omega) (by omega) (by first | assumption | (simp (disch := omega) only [pI_eq, pI_row, pI_col, va_up_self, va_up_ne, ne_eq, not_false_eq_true, hJN, hn] <;> rfl) | rfl) ?_
        | refine T_iald (pc1 := 63) (pc := 62) k_M_bestOf_62 rfl (by first | exact ga G (by decide) rfl | assumption) (by assumption) ?_
        | refine T_retI (pc := 63) k_M_bestOf_63 rfl (by first | rfl | decide | assumption) ?_)
      · exact nx J _ hJ hv (by rw [bcs, if_pos (Or.inl (by assumption))])
      · exact nx J _ hJ hv (by rw [bcs, if_pos (Or.inr hb1)])
      · exact nx J2 _ (eqx_tr hJ (eqx_mono hJ2 (by decide))) (fun j hj => by rw [hJ2 105 (by decide)]; exact hv j hj) (by rw [bcs, if_neg (fun q => by rcases q with q | q; exact absurd q (by assumption); rw [hb1] at q; cases q)])
  repeat' (first
    | refine T_iconst (v := (nI 0)) (pc1 := 1) (pc := 0) k_M_bestOf_0 rfl (by decide) ?_
    | refine T_istore (pc1 := 3) (pc := 1) k_M_bestOf_1 rfl (Nat.le_of_ble_eq_true rfl) ?_
    | refine T_aload_n (pc1 := 6) (pc := 5) k_M_bestOf_5 rfl rfl ?_
    | refine T_aload_nN (pc1 := 6) (pc := 5) k_M_bestOf_5 rfl rfl ?_
    | refine T_getR (pc1 := 9) (pc := 6) k_M_bestOf_6 rfl f_M_9 rfl (by first | exact ga G (by decide) rfl | assumption) (by first | exact gr G (by decide) rfl | assumption) ?_
    | refine T_iconst (v := (nI 5)) (pc1 := 10) (pc := 9) k_M_bestOf_9 rfl (by decide) ?_
    | refine T_ialdN (pc1 := 11) (pc := 10) k_M_bestOf_10 rfl (by first | exact ga G (by decide) rfl | assumption) (by omega) (by omega) (by first | assumption | (simp (disch := omega) only [pI_eq, pI_row, pI_col, va_up_self, va_up_ne, ne_eq, not_false_eq_true, hJN, hn] <;> rfl) | rfl) ?_
    | refine T_iald (pc1 := 11) (pc := 10) k_M_bestOf_10 rfl (by first | exact ga G (by decide) rfl | assumption) (by assumption) ?_
    | (with_reducible refine T_icmp_geN (tgt := 52) (pc1 := 14) (pc := 11) k_M_bestOf_11 (by decide) (by decide) (by omega) (by omega) (fun hc => ?_) (fun hc => ?_) <;> first | (exfalso; omega) | skip)
    | refine T_icmp_ge_t (tgt := 52) (pc := 11) k_M_bestOf_11 rfl (by decide) ?_
    | refine T_icmp_ge_f (tgt := 52) (pc1 := 14) (pc := 11) k_M_bestOf_11 rfl rfl (by decide) ?_
    | refine T_icmp_ge (tgt := 52) (pc1 := 14) (pc := 11) k_M_bestOf_11 rfl rfl (fun hc => ?_) (fun hc => ?_)
    | refine T_aload_n (pc1 := 15) (pc := 14) k_M_bestOf_14 rfl rfl ?_
    | refine T_aload_nN (pc1 := 15) (pc := 14) k_M_bestOf_14 rfl rfl ?_
    | refine T_getR (pc1 := 18) (pc := 15) k_M_bestOf_15 rfl f_M_19 rfl (by first | exact ga G (by decide) rfl | assumption) (by first | exact gr G (by decide) rfl | assumption) ?_
    | refine T_iload (pc1 := 20) (pc := 18) k_M_bestOf_18 rfl rfl ?_
    | refine T_iload (pc1 := 22) (pc := 20) k_M_bestOf_20 rfl rfl ?_
    | refine T_iload_n (pc1 := 23) (pc := 22) k_M_bestOf_22 rfl rfl ?_
    | (with_reducible refine T_icmp_eqN (tgt := 35) (pc1 := 26) (pc := 23) k_M_bestOf_23 (by decide) (by decide) (by omega) (by omega) (fun hc => ?_) (fun hc => ?_) <;> first | (exfalso; omega) | skip)
    | refine T_icmp_eq_t (tgt := 35) (pc := 23) k_M_bestOf_23 rfl (by decide) ?_
    | refine T_icmp_eq_f (tgt := 35) (pc1 := 26) (pc := 23) k_M_bestOf_23 rfl rfl (by decide) ?_
    | refine T_icmp_eq (tgt := 35) (pc1 := 26) (pc := 23) k_M_bestOf_23 rfl rfl (fun hc => ?_) (fun hc => ?_)
    | refine T_aload_n (pc1 := 27) (pc := 26) k_M_bestOf_26 rfl rfl ?_
    | refine T_aload_nN (pc1 := 27) (pc := 26) k_M_bestOf_26 rfl rfl ?_
    | refine T_iload (pc1 := 29) (pc := 27) k_M_bestOf_27 rfl rfl ?_
    | (refine T_cV (As := [_]) (d1 := 3) (pc1 := 32) (pc := 29) k_M_bestOf_29 rfl (by decide) (Nat.le_of_ble_eq_true rfl) rfl o_M_isBarred l_M_146 rfl (by first | exact ga G (by decide) rfl | assumption) rfl (c_M_isBarred G hJN ok hbn (fun hb1 => ?_) (fun hb1 => ?_)) <;> try dsimp only [psh])
    | (with_reducible refine T_if_eqN (tgt := 39) (pc1 := 35) (pc := 32) k_M_bestOf_32 (by decide) (by decide) (by omega) (fun hc => ?_) (fun hc => ?_) <;> first | (exfalso; omega) | skip)
    | refine T_if_eq_t (tgt := 39) (pc := 32) k_M_bestOf_32 rfl (by decide) ?_
    | refine T_if_eq_f (tgt := 39) (pc1 := 35) (pc := 32) k_M_bestOf_32 rfl rfl (by decide) ?_
    | refine T_if_eq (tgt := 39) (pc1 := 35) (pc := 32) k_M_bestOf_32 rfl rfl (fun hc => ?_) (fun hc => ?_)
    | refine T_iconst (v := (nI 0)) (pc1 := 36) (pc := 35) k_M_bestOf_35 rfl (by decide) ?_
    | refine T_goto (tgt := 45) (pc := 36) k_M_bestOf_36 rfl ?_
    | refine T_aload_n (pc1 := 40) (pc := 39) k_M_bestOf_39 rfl rfl ?_
    | refine T_aload_nN (pc1 := 40) (pc := 39) k_M_bestOf_39 rfl rfl ?_
    | refine T_iload (pc1 := 42) (pc := 40) k_M_bestOf_40 rfl rfl ?_
    | (refine T_cV (As := [_]) (d1 := 4) (pc1 := 45) (pc := 42) k_M_bestOf_42 rfl (by decide) (Nat.le_of_ble_eq_true rfl) rfl o_M_takes l_M_143 rfl (by first | exact ga G (by decide) rfl | assumption) rfl (c_M_takesN G hJN ok hbn (fun J2 hJ2 => ?_)) <;> try dsimp only [psh])
    | refine T_iastN (pc1 := 46) (pc := 45) k_M_bestOf_45 rfl (by first | exact ga G (by decide) rfl | assumption) (by omega) (by omega) ?_
    | refine T_iincN (b := 1) (pc1 := 49) (pc := 46) k_M_bestOf_46 rfl rfl (by decide) ?_
    | refine T_iinc (v := (nI 1)) (pc1 := 49) (pc := 46) k_M_bestOf_46 rfl rfl (by decide) ?_
    | refine T_goto (tgt := 3) (pc := 49) k_M_bestOf_49 rfl ?_
    | refine T_aload_n (pc1 := 53) (pc := 52) k_M_bestOf_52 rfl rfl ?_
    | refine T_aload_nN (pc1 := 53) (pc := 52) k_M_bestOf_52 rfl rfl ?_
    | refine T_iload_n (pc1 := 54) (pc := 53) k_M_bestOf_53 rfl rfl ?_
    | (refine T_cV (As := [_]) (d1 := 2) (pc1 := 57) (pc := 54) k_M_bestOf_54 rfl (by decide) (Nat.le_of_ble_eq_true rfl) rfl o_M_findFar l_M_164 rfl (by first | exact ga G (by decide) rfl | assumption) rfl (c_M_findFar (c := bcs N tn w) G hJN ok ht hv (fun j hj => bcs_le ok hj) (fun J2 hJ2 hD => ?_)) <;> try dsimp only [psh])
    | refine T_aload_n (pc1 := 58) (pc := 57) k_M_bestOf_57 rfl rfl ?_
    | refine T_aload_nN (pc1 := 58) (pc := 57) k_M_bestOf_57 rfl rfl ?_
    | refine T_getR (pc1 := 61) (pc := 58) k_M_bestOf_58 rfl f_M_22 rfl (by first | exact ga G (by decide) rfl | assumption) (by first | exact gr G (by decide) rfl | assumption) ?_
    | refine T_iload_n (pc1 := 62) (pc := 61) k_M_bestOf_61 rfl rfl ?_
    | refine T_ialdN (pc1 := 63) (pc := 62) k_M_bestOf_62 rfl (by first | exact ga G (by decide) rfl | assumption) (by omega) (by omega) (by first | assumption | (simp (disch := omega) only [pI_eq, pI_row, pI_col, va_up_self, va_up_ne, ne_eq, not_false_eq_true, hJN, hn] <;> rfl) | rfl) ?_
    | refine T_iald (pc1 := 63) (pc := 62) k_M_bestOf_62 rfl (by first | exact ga G (by decide) rfl | assumption) (by assumption) ?_
    | refine T_retI (pc := 63) k_M_bestOf_63 rfl (by first | rfl | decide | assumption) ?_)
  exact loop n 0 I (by omega) eqx_rf (fun j hj => absurd hj (Nat.not_lt_zero _))
theorem c_M_best {N : Row} {n tn : Nat} {f t : Int32} (G : GeoOK g) (hN : I 102 = N) (ok : okL N n tn) (kk : ∀ J r, eqx [105, 106, 112, 113] I J → r = bestA N n tn f t → K (some (.int r)) g J) : Cl 6 M_M_best [.ref 101, .int f, .int t] g I K := by
  show Rl 6 M_M_best 0 [some (.ref 101), some (.int f), some (.int t), none] [] g I K
  by_cases hok : rg 8 f ∧ rg 8 t
  · rw [bestA, if_pos hok] at kk
    obtain ⟨a, ha, rfl⟩ := rg_of hok.1 (by omega)
    obtain ⟨b, hb, rfl⟩ := rg_of hok.2 (by omega)
    rw [nI_clamp (by omega), nI_clamp (by omega)] at kk
    have hle := bst_le (fr := a) (to0 := b) (w := -1) ok
    repeat' (first
      | refine T_iload_n (pc1 := 1) (pc := 0) k_M_best_0 rfl rfl ?_
      | refine T_iload_n (pc1 := 2) (pc := 1) k_M_best_1 rfl rfl ?_
      | (refine T_cS (As := [_, _]) (d1 := 3) (pc1 := 5) (pc := 2) k_M_best_2 rfl (by decide) (Nat.le_of_ble_eq_true rfl) rfl o_M_areSpots l_M_107 rfl (c_M_areSpots (fun hw => ?_) (fun hw => ?_)) <;> try dsimp only [psh])
      | (with_reducible refine T_if_neN (tgt := 11) (pc1 := 8) (pc := 5) k_M_best_5 (by decide) (by decide) (by omega) (fun hc => ?_) (fun hc => ?_) <;> first | (exfalso; omega) | skip)
      | refine T_if_ne_t (tgt := 11) (pc := 5) k_M_best_5 rfl (by decide) ?_
      | refine T_if_ne_f (tgt := 11) (pc1 := 8) (pc := 5) k_M_best_5 rfl rfl (by decide) ?_
      | refine T_if_ne (tgt := 11) (pc1 := 8) (pc := 5) k_M_best_5 rfl rfl (fun hc => ?_) (fun hc => ?_)
      | refine T_ldc (v := (-1000000001)) (pc1 := 10) (pc := 8) k_M_best_8 rfl c_M_111 ?_
      | refine T_retI (pc := 10) k_M_best_10 rfl (by first | rfl | decide | assumption) ?_
      | refine T_aload_n (pc1 := 12) (pc := 11) k_M_best_11 rfl rfl ?_
      | refine T_aload_nN (pc1 := 12) (pc := 11) k_M_best_11 rfl rfl ?_
      | refine T_iload_n (pc1 := 13) (pc := 12) k_M_best_12 rfl rfl ?_
      | refine T_iload_n (pc1 := 14) (pc := 13) k_M_best_13 rfl rfl ?_
      | refine T_iconst (v := (-1)) (pc1 := 15) (pc := 14) k_M_best_14 rfl (by decide) ?_
      | (refine T_cV (As := [_, _, _]) (d1 := 5) (pc1 := 18) (pc := 15) k_M_best_15 rfl (by decide) (Nat.le_of_ble_eq_true rfl) rfl o_M_bestOf l_M_180 rfl (by first | exact ga G (by decide) rfl | assumption) rfl (c_M_bestOf G hN ok ha hb (fun J hJ hD => ?_)) <;> try dsimp only [psh])
      | refine T_istore_n (pc1 := 19) (pc := 18) k_M_best_18 rfl (Nat.le_of_ble_eq_true rfl) ?_
      | refine T_iload_n (pc1 := 20) (pc := 19) k_M_best_19 rfl rfl ?_
      | refine T_ldc (v := (nI 1000000)) (pc1 := 22) (pc := 20) k_M_best_20 rfl c_M_163 ?_
      | (with_reducible refine T_icmp_ltN (tgt := 30) (pc1 := 25) (pc := 22) k_M_best_22 (by decide) (by decide) (by omega) (by omega) (fun hc => ?_) (fun hc => ?_) <;> first | (exfalso; omega) | skip)
      | refine T_icmp_lt_t (tgt := 30) (pc := 22) k_M_best_22 rfl (by decide) ?_
      | refine T_icmp_lt_f (tgt := 30) (pc1 := 25) (pc := 22) k_M_best_22 rfl rfl (by decide) ?_
      | refine T_icmp_lt (tgt := 30) (pc1 := 25) (pc := 22) k_M_best_22 rfl rfl (fun hc => ?_) (fun hc => ?_)
      | refine T_ldc (v := (-1000000005)) (pc1 := 27) (pc := 25) k_M_best_25 rfl c_M_103 ?_
      | refine T_goto (tgt := 31) (pc := 27) k_M_best_27 rfl ?_
      | refine T_iload_n (pc1 := 31) (pc := 30) k_M_best_30 rfl rfl ?_
      | refine T_retI (pc := 31) k_M_best_31 rfl (by first | rfl | decide | assumption) ?_)
    all_goals first | (exfalso; exact hw hok) | exact kk _ _ hJ (by rw [nway, if_neg (by omega)]) | exact kk _ _ hJ (by rw [nway, if_pos (by omega)])
  · rw [bestA, if_neg hok] at kk
    repeat' (first
      | refine T_iload_n (pc1 := 1) (pc := 0) k_M_best_0 rfl rfl ?_
      | refine T_iload_n (pc1 := 2) (pc := 1) k_M_best_1 rfl rfl ?_
      | (refine T_cS (As := [_, _]) (d1 := 3) (pc1 := 5) (pc := 2) k_M_best_2 rfl (by decide) (Nat.le_of_ble_eq_true rfl) rfl o_M_areSpots l_M_107 rfl (c_M_areSpots (fun hw => ?_) (fun hw => ?_)) <;> try dsimp only [psh])
      | (with_reducible refine T_if_neN (tgt := 11) (pc1 := 8) (pc := 5) k_M_best_5 (by decide) (by decide) (by omega) (fun hc => ?_) (fun hc => ?_) <;> first | (exfalso; omega) | skip)
      | refine T_if_ne_t (tgt := 11) (pc := 5) k_M_best_5 rfl (by decide) ?_
      | refine T_if_ne_f (tgt := 11) (pc1 := 8) (pc := 5) k_M_best_5 rfl rfl (by decide) ?_
      | refine T_if_ne (tgt := 11) (pc1 := 8) (pc := 5) k_M_best_5 rfl rfl (fun hc => ?_) (fun hc => ?_)
      | refine T_ldc (v := (-1000000001)) (pc1 := 10) (pc := 8) k_M_best_8 rfl c_M_111 ?_
      | refine T_retI (pc := 10) k_M_best_10 rfl (by first | rfl | decide | assumption) ?_)
    all_goals first | exact kk _ _ eqx_rf rfl | (exfalso; exact hok (by assumption))
set_option maxHeartbeats 4000000 in
theorem c_M_minutesBehind {N : Row} {n tn fr to0 m : Nat} (G : GeoOK g) (hN : I 102 = N) (ok : okL N n tn) (hf : fr < 8) (ht : to0 < 8) (hm : m ≤ 40) (kk : ∀ J, eqx [104, 105, 106, 112, 113] I J → K (some (.int (nI (wkM (itN N n tn fr to0 m) n tn fr to0)))) g J) : Cl 6 M_M_minutesBehind [.ref 101, .int (nI fr), .int (nI to0), .int (nI m)] g I K := by
  show Rl 6 M_M_minutesBehind 0 [some (.ref 101), some (.int (nI fr)), some (.int (nI to0)), some (.int (nI m)), none] [] g I K
  have loop : ∀ q k (J : IM), k + q = m → eqx [102, 104, 105, 106, 112, 113] I J → J 104 = cpy 156 N (I 104) → J 102 = itN N n tn fr to0 k → Rl 6 M_M_minutesBehind 17 [some (.ref 101), some (.int (nI fr)), some (.int (nI to0)), some (.int (nI m)), some (.int (nI k))] [] g J K := by
    intro q
    induction q with
    | zero =>
      intro k J hk hJ h104 hJN
      have hk : k = m := by omega
      subst hk
      obtain ⟨ok1, ok2⟩ := itN_ok (fr := fr) (to0 := to0) ok hf ht k
      obtain ⟨ok3, ok4, -⟩ := wkN_ok (fr := fr) (to0 := to0) ok1 hf ht
      repeat' (first
        | refine T_aload_n (pc1 := 1) (pc := 0) k_M_minutesBehind_0 rfl rfl ?_
        | refine T_aload_nN (pc1 := 1) (pc := 0) k_M_minutesBehind_0 rfl rfl ?_
        | refine T_getR (pc1 := 4) (pc := 1) k_M_minutesBehind_1 rfl f_M_9 rfl (by first | exact ga G (by decide) rfl | assumption) (by first | exact gr G (by decide) rfl | assumption) ?_
        | refine T_aload_n (pc1 := 5) (pc := 4) k_M_minutesBehind_4 rfl rfl ?_
        | refine T_aload_nN (pc1 := 5) (pc := 4) k_M_minutesBehind_4 rfl rfl ?_
        | refine T_getR (pc1 := 8) (pc := 5) k_M_minutesBehind_5 rfl f_M_16 rfl (by first | exact ga G (by decide) rfl | assumption) (by first | exact gr G (by decide) rfl | assumption) ?_
        | refine T_sipush (v := (nI 156)) (pc1 := 11) (pc := 8) k_M_minutesBehind_8 rfl (by decide) ?_
        | (refine T_cS (As := [_, _, _]) (d1 := 1) (pc1 := 14) (pc := 11) k_M_minutesBehind_11 rfl (by decide) (Nat.le_of_ble_eq_true rfl) rfl o_M_copyRow l_M_91 rfl (c_M_copyRow (ga G (by decide) rfl) (ga G (by decide) rfl) (by omega) (by omega) (by omega) (by omega) (by decide) ?_) <;> try dsimp only [psh])
        | refine T_iconst (v := (nI 0)) (pc1 := 15) (pc := 14) k_M_minutesBehind_14 rfl (by decide) ?_
        | refine T_istore (pc1 := 17) (pc := 15) k_M_minutesBehind_15 rfl (Nat.le_of_ble_eq_true rfl) ?_
        | refine T_iload (pc1 := 19) (pc := 17) k_M_minutesBehind_17 rfl rfl ?_
        | refine T_iload_n (pc1 := 20) (pc := 19) k_M_minutesBehind_19 rfl rfl ?_
        | (with_reducible refine T_icmp_geN (tgt := 36) (pc1 := 23) (pc := 20) k_M_minutesBehind_20 (by decide) (by decide) (by omega) (by omega) (fun hc => ?_) (fun hc => ?_) <;> first | (exfalso; omega) | skip)
        | refine T_icmp_ge_t (tgt := 36) (pc := 20) k_M_minutesBehind_20 rfl (by decide) ?_
        | refine T_icmp_ge_f (tgt := 36) (pc1 := 23) (pc := 20) k_M_minutesBehind_20 rfl rfl (by decide) ?_
        | refine T_icmp_ge (tgt := 36) (pc1 := 23) (pc := 20) k_M_minutesBehind_20 rfl rfl (fun hc => ?_) (fun hc => ?_)
        | refine T_aload_n (pc1 := 24) (pc := 23) k_M_minutesBehind_23 rfl rfl ?_
        | refine T_aload_nN (pc1 := 24) (pc := 23) k_M_minutesBehind_23 rfl rfl ?_
        | refine T_iload_n (pc1 := 25) (pc := 24) k_M_minutesBehind_24 rfl rfl ?_
        | refine T_iload_n (pc1 := 26) (pc := 25) k_M_minutesBehind_25 rfl rfl ?_
        | (refine T_cV (As := [_, _]) (d1 := 5) (pc1 := 29) (pc := 26) k_M_minutesBehind_26 rfl (by decide) (Nat.le_of_ble_eq_true rfl) rfl o_M_walks l_M_174 rfl (by first | exact ga G (by decide) rfl | assumption) rfl (c_M_walks G hN ok ha hb (fun J hJ hJN => ?_)) <;> try dsimp only [psh])
        | refine T_pop (pc1 := 30) (pc := 29) k_M_minutesBehind_29 rfl rfl ?_
        | refine T_iincN (b := 1) (pc1 := 33) (pc := 30) k_M_minutesBehind_30 rfl rfl (by decide) ?_
        | refine T_iinc (v := (nI 1)) (pc1 := 33) (pc := 30) k_M_minutesBehind_30 rfl rfl (by decide) ?_
        | refine T_goto (tgt := 17) (pc := 33) k_M_minutesBehind_33 rfl ?_
        | refine T_aload_n (pc1 := 37) (pc := 36) k_M_minutesBehind_36 rfl rfl ?_
        | refine T_aload_nN (pc1 := 37) (pc := 36) k_M_minutesBehind_36 rfl rfl ?_
        | refine T_aload_n (pc1 := 38) (pc := 37) k_M_minutesBehind_37 rfl rfl ?_
        | refine T_aload_nN (pc1 := 38) (pc := 37) k_M_minutesBehind_37 rfl rfl ?_
        | refine T_iload_n (pc1 := 39) (pc := 38) k_M_minutesBehind_38 rfl rfl ?_
        | refine T_iload_n (pc1 := 40) (pc := 39) k_M_minutesBehind_39 rfl rfl ?_
        | (refine T_cV (As := [_, _]) (d1 := 5) (pc1 := 43) (pc := 40) k_M_minutesBehind_40 rfl (by decide) (Nat.le_of_ble_eq_true rfl) rfl o_M_walks l_M_174 rfl (by first | exact ga G (by decide) rfl | assumption) rfl (c_M_walks G hJN ok1 hf ht (fun J2 hJ2 hJ2N => ?_)) <;> try dsimp only [psh])
        | (refine T_cV (As := [_]) (d1 := 2) (pc1 := 46) (pc := 43) k_M_minutesBehind_43 rfl (by decide) (Nat.le_of_ble_eq_true rfl) rfl o_M_putBack l_M_183 rfl (by first | exact ga G (by decide) rfl | assumption) rfl (c_M_putBack G ?_) <;> try dsimp only [psh])
        | refine T_retI (pc := 46) k_M_minutesBehind_46 rfl (by first | rfl | decide | assumption) ?_)
      exact kk _ (back_eq hN (eqx_tr hJ (eqx_mono hJ2 (by decide))) ((hJ2 104 (by decide)).trans h104) (fun k hk => by rw [hJ2N, ok4 k hk, ok2 k hk]))
    | succ q ih =>
      intro k J hk hJ h104 hJN
      obtain ⟨ok1, ok2⟩ := itN_ok (fr := fr) (to0 := to0) ok hf ht k
      refine T_iload (pc1 := 19) (pc := 17) k_M_minutesBehind_17 rfl rfl ?_
      repeat' (first
        | refine T_aload_n (pc1 := 1) (pc := 0) k_M_minutesBehind_0 rfl rfl ?_
        | refine T_aload_nN (pc1 := 1) (pc := 0) k_M_minutesBehind_0 rfl rfl ?_
        | refine T_getR (pc1 := 4) (pc := 1) k_M_minutesBehind_1 rfl f_M_9 rfl (by first | exact ga G (by decide) rfl | assumption) (by first | exact gr G (by decide) rfl | assumption) ?_
        | refine T_aload_n (pc1 := 5) (pc := 4) k_M_minutesBehind_4 rfl rfl ?_
        | refine T_aload_nN (pc1 := 5) (pc := 4) k_M_minutesBehind_4 rfl rfl ?_
        | refine T_getR (pc1 := 8) (pc := 5) k_M_minutesBehind_5 rfl f_M_16 rfl (by first | exact ga G (by decide) rfl | assumption) (by first | exact gr G (by decide) rfl | assumption) ?_
        | refine T_sipush (v := (nI 156)) (pc1 := 11) (pc := 8) k_M_minutesBehind_8 rfl (by decide) ?_
        | (refine T_cS (As := [_, _, _]) (d1 := 1) (pc1 := 14) (pc := 11) k_M_minutesBehind_11 rfl (by decide) (Nat.le_of_ble_eq_true rfl) rfl o_M_copyRow l_M_91 rfl (c_M_copyRow (ga G (by decide) rfl) (ga G (by decide) rfl) (by omega) (by omega) (by omega) (by omega) (by decide) ?_) <;> try dsimp only [psh])
        | refine T_iconst (v := (nI 0)) (pc1 := 15) (pc := 14) k_M_minutesBehind_14 rfl (by decide) ?_
        | refine T_istore (pc1 := 17) (pc := 15) k_M_minutesBehind_15 rfl (Nat.le_of_ble_eq_true rfl) ?_
        | refine T_iload_n (pc1 := 20) (pc := 19) k_M_minutesBehind_19 rfl rfl ?_
        | (with_reducible refine T_icmp_geN (tgt := 36) (pc1 := 23) (pc := 20) k_M_minutesBehind_20 (by decide) (by decide) (by omega) (by omega) (fun hc => ?_) (fun hc => ?_) <;> first | (exfalso; omega) | skip)
        | refine T_icmp_ge_t (tgt := 36) (pc := 20) k_M_minutesBehind_20 rfl (by decide) ?_
        | refine T_icmp_ge_f (tgt := 36) (pc1 := 23) (pc := 20) k_M_minutesBehind_20 rfl rfl (by decide) ?_
        | refine T_icmp_ge (tgt := 36) (pc1 := 23) (pc := 20) k_M_minutesBehind_20 rfl rfl (fun hc => ?_) (fun hc => ?_)
        | refine T_aload_n (pc1 := 24) (pc := 23) k_M_minutesBehind_23 rfl rfl ?_
        | refine T_aload_nN (pc1 := 24) (pc := 23) k_M_minutesBehind_23 rfl rfl ?_
        | refine T_iload_n (pc1 := 25) (pc := 24) k_M_minutesBehind_24 rfl rfl ?_
        | refine T_iload_n (pc1 := 26) (pc := 25) k_M_minutesBehind_25 rfl rfl ?_
        | (refine T_cV (As := [_, _]) (d1 := 5) (pc1 := 29) (pc := 26) k_M_minutesBehind_26 rfl (by decide) (Nat.le_of_ble_eq_true rfl) rfl o_M_walks l_M_174 rfl (by first | exact ga G (by decide) rfl | assumption) rfl (c_M_walks G hJN ok1 hf ht (fun J2 hJ2 hJ2N => ?_)) <;> try dsimp only [psh])
        | refine T_pop (pc1 := 30) (pc := 29) k_M_minutesBehind_29 rfl rfl ?_
        | refine T_iincN (b := 1) (pc1 := 33) (pc := 30) k_M_minutesBehind_30 rfl rfl (by decide) ?_
        | refine T_iinc (v := (nI 1)) (pc1 := 33) (pc := 30) k_M_minutesBehind_30 rfl rfl (by decide) ?_
        | refine T_goto (tgt := 17) (pc := 33) k_M_minutesBehind_33 rfl ?_
        | refine T_aload_n (pc1 := 37) (pc := 36) k_M_minutesBehind_36 rfl rfl ?_
        | refine T_aload_nN (pc1 := 37) (pc := 36) k_M_minutesBehind_36 rfl rfl ?_
        | refine T_aload_n (pc1 := 38) (pc := 37) k_M_minutesBehind_37 rfl rfl ?_
        | refine T_aload_nN (pc1 := 38) (pc := 37) k_M_minutesBehind_37 rfl rfl ?_
        | refine T_iload_n (pc1 := 39) (pc := 38) k_M_minutesBehind_38 rfl rfl ?_
        | refine T_iload_n (pc1 := 40) (pc := 39) k_M_minutesBehind_39 rfl rfl ?_
        | (refine T_cV (As := [_, _]) (d1 := 5) (pc1 := 43) (pc := 40) k_M_minutesBehind_40 rfl (by decide) (Nat.le_of_ble_eq_true rfl) rfl o_M_walks l_M_174 rfl (by first | exact ga G (by decide) rfl | assumption) rfl (c_M_walks G hJN ok1 hf ht (fun J2 hJ2 hJ2N => ?_)) <;> try dsimp only [psh])
        | (refine T_cV (As := [_]) (d1 := 2) (pc1 := 46) (pc := 43) k_M_minutesBehind_43 rfl (by decide) (Nat.le_of_ble_eq_true rfl) rfl o_M_putBack l_M_183 rfl (by first | exact ga G (by decide) rfl | assumption) rfl (c_M_putBack G ?_) <;> try dsimp only [psh])
        | refine T_retI (pc := 46) k_M_minutesBehind_46 rfl (by first | rfl | decide | assumption) ?_)
      exact ih (k + 1) J2 (by omega) (eqx_tr hJ (eqx_mono hJ2 (by decide))) ((hJ2 104 (by decide)).trans h104) hJ2N
  repeat' (first
    | refine T_aload_n (pc1 := 1) (pc := 0) k_M_minutesBehind_0 rfl rfl ?_
    | refine T_aload_nN (pc1 := 1) (pc := 0) k_M_minutesBehind_0 rfl rfl ?_
    | refine T_getR (pc1 := 4) (pc := 1) k_M_minutesBehind_1 rfl f_M_9 rfl (by first | exact ga G (by decide) rfl | assumption) (by first | exact gr G (by decide) rfl | assumption) ?_
    | refine T_aload_n (pc1 := 5) (pc := 4) k_M_minutesBehind_4 rfl rfl ?_
    | refine T_aload_nN (pc1 := 5) (pc := 4) k_M_minutesBehind_4 rfl rfl ?_
    | refine T_getR (pc1 := 8) (pc := 5) k_M_minutesBehind_5 rfl f_M_16 rfl (by first | exact ga G (by decide) rfl | assumption) (by first | exact gr G (by decide) rfl | assumption) ?_
    | refine T_sipush (v := (nI 156)) (pc1 := 11) (pc := 8) k_M_minutesBehind_8 rfl (by decide) ?_
    | (refine T_cS (As := [_, _, _]) (d1 := 1) (pc1 := 14) (pc := 11) k_M_minutesBehind_11 rfl (by decide) (Nat.le_of_ble_eq_true rfl) rfl o_M_copyRow l_M_91 rfl (c_M_copyRow (ga G (by decide) rfl) (ga G (by decide) rfl) (by omega) (by omega) (by omega) (by omega) (by decide) ?_) <;> try dsimp only [psh])
    | refine T_iconst (v := (nI 0)) (pc1 := 15) (pc := 14) k_M_minutesBehind_14 rfl (by decide) ?_
    | refine T_istore (pc1 := 17) (pc := 15) k_M_minutesBehind_15 rfl (Nat.le_of_ble_eq_true rfl) ?_
    | refine T_iload_n (pc1 := 20) (pc := 19) k_M_minutesBehind_19 rfl rfl ?_
    | (with_reducible refine T_icmp_geN (tgt := 36) (pc1 := 23) (pc := 20) k_M_minutesBehind_20 (by decide) (by decide) (by omega) (by omega) (fun hc => ?_) (fun hc => ?_) <;> first | (exfalso; omega) | skip)
    | refine T_icmp_ge_t (tgt := 36) (pc := 20) k_M_minutesBehind_20 rfl (by decide) ?_
    | refine T_icmp_ge_f (tgt := 36) (pc1 := 23) (pc := 20) k_M_minutesBehind_20 rfl rfl (by decide) ?_
    | refine T_icmp_ge (tgt := 36) (pc1 := 23) (pc := 20) k_M_minutesBehind_20 rfl rfl (fun hc => ?_) (fun hc => ?_)
    | refine T_aload_n (pc1 := 24) (pc := 23) k_M_minutesBehind_23 rfl rfl ?_
    | refine T_aload_nN (pc1 := 24) (pc := 23) k_M_minutesBehind_23 rfl rfl ?_
    | refine T_iload_n (pc1 := 25) (pc := 24) k_M_minutesBehind_24 rfl rfl ?_
    | refine T_iload_n (pc1 := 26) (pc := 25) k_M_minutesBehind_25 rfl rfl ?_
    | (refine T_cV (As := [_, _]) (d1 := 5) (pc1 := 29) (pc := 26) k_M_minutesBehind_26 rfl (by decide) (Nat.le_of_ble_eq_true rfl) rfl o_M_walks l_M_174 rfl (by first | exact ga G (by decide) rfl | assumption) rfl (c_M_walks G hJN ok1 hf ht (fun J2 hJ2 hJ2N => ?_)) <;> try dsimp only [psh])
    | refine T_pop (pc1 := 30) (pc := 29) k_M_minutesBehind_29 rfl rfl ?_
    | refine T_iincN (b := 1) (pc1 := 33) (pc := 30) k_M_minutesBehind_30 rfl rfl (by decide) ?_
    | refine T_iinc (v := (nI 1)) (pc1 := 33) (pc := 30) k_M_minutesBehind_30 rfl rfl (by decide) ?_
    | refine T_goto (tgt := 17) (pc := 33) k_M_minutesBehind_33 rfl ?_
    | refine T_aload_n (pc1 := 37) (pc := 36) k_M_minutesBehind_36 rfl rfl ?_
    | refine T_aload_nN (pc1 := 37) (pc := 36) k_M_minutesBehind_36 rfl rfl ?_
    | refine T_aload_n (pc1 := 38) (pc := 37) k_M_minutesBehind_37 rfl rfl ?_
    | refine T_aload_nN (pc1 := 38) (pc := 37) k_M_minutesBehind_37 rfl rfl ?_
    | refine T_iload_n (pc1 := 39) (pc := 38) k_M_minutesBehind_38 rfl rfl ?_
    | refine T_iload_n (pc1 := 40) (pc := 39) k_M_minutesBehind_39 rfl rfl ?_
    | (refine T_cV (As := [_, _]) (d1 := 5) (pc1 := 43) (pc := 40) k_M_minutesBehind_40 rfl (by decide) (Nat.le_of_ble_eq_true rfl) rfl o_M_walks l_M_174 rfl (by first | exact ga G (by decide) rfl | assumption) rfl (c_M_walks G hJN ok1 hf ht (fun J2 hJ2 hJ2N => ?_)) <;> try dsimp only [psh])
    | (refine T_cV (As := [_]) (d1 := 2) (pc1 := 46) (pc := 43) k_M_minutesBehind_43 rfl (by decide) (Nat.le_of_ble_eq_true rfl) rfl o_M_putBack l_M_183 rfl (by first | exact ga G (by decide) rfl | assumption) rfl (c_M_putBack G ?_) <;> try dsimp only [psh])
    | refine T_retI (pc := 46) k_M_minutesBehind_46 rfl (by first | rfl | decide | assumption) ?_)
  refine loop m 0 _ (by omega) (eqx_up eqx_rf _ (by decide)) ?_ ?_
  · rw [va_up_self, hN]
  · rw [va_up_ne _ _ (by decide)]; exact hN
theorem c_M_loses {N : Row} {n tn : Nat} {f t : Int32} (G : GeoOK g) (hN : I 102 = N) (ok : okL N n tn) (kk : ∀ J r, eqx [104, 105, 106, 112, 113] I J → r = losesA N n tn f t → K (some (.int r)) g J) : Cl 7 M_M_loses [.ref 101, .int f, .int t] g I K := by
  show Rl 7 M_M_loses 0 [some (.ref 101), some (.int f), some (.int t), none] [] g I K
  by_cases hok : rg 8 f ∧ rg 8 t
  · rw [losesA, if_pos hok] at kk
    obtain ⟨a, ha, rfl⟩ := rg_of hok.1 (by omega)
    obtain ⟨b, hb, rfl⟩ := rg_of hok.2 (by omega)
    rw [nI_clamp (by omega), nI_clamp (by omega)] at kk
    have hle := bst_le (fr := a) (to0 := b) (w := -1) ok
    repeat' (first
      | refine T_iload_n (pc1 := 1) (pc := 0) k_M_loses_0 rfl rfl ?_
      | refine T_iload_n (pc1 := 2) (pc := 1) k_M_loses_1 rfl rfl ?_
      | (refine T_cS (As := [_, _]) (d1 := 3) (pc1 := 5) (pc := 2) k_M_loses_2 rfl (by decide) (Nat.le_of_ble_eq_true rfl) rfl o_M_areSpots l_M_107 rfl (c_M_areSpots (fun hw => ?_) (fun hw => ?_)) <;> try dsimp only [psh])
      | (with_reducible refine T_if_neN (tgt := 11) (pc1 := 8) (pc := 5) k_M_loses_5 (by decide) (by decide) (by omega) (fun hc => ?_) (fun hc => ?_) <;> first | (exfalso; omega) | skip)
      | refine T_if_ne_t (tgt := 11) (pc := 5) k_M_loses_5 rfl (by decide) ?_
      | refine T_if_ne_f (tgt := 11) (pc1 := 8) (pc := 5) k_M_loses_5 rfl rfl (by decide) ?_
      | refine T_if_ne (tgt := 11) (pc1 := 8) (pc := 5) k_M_loses_5 rfl rfl (fun hc => ?_) (fun hc => ?_)
      | refine T_ldc (v := (-1000000001)) (pc1 := 10) (pc := 8) k_M_loses_8 rfl c_M_111 ?_
      | refine T_retI (pc := 10) k_M_loses_10 rfl (by first | rfl | decide | assumption) ?_
      | refine T_aload_n (pc1 := 12) (pc := 11) k_M_loses_11 rfl rfl ?_
      | refine T_aload_nN (pc1 := 12) (pc := 11) k_M_loses_11 rfl rfl ?_
      | refine T_iload_n (pc1 := 13) (pc := 12) k_M_loses_12 rfl rfl ?_
      | refine T_iload_n (pc1 := 14) (pc := 13) k_M_loses_13 rfl rfl ?_
      | refine T_iconst (v := (-1)) (pc1 := 15) (pc := 14) k_M_loses_14 rfl (by decide) ?_
      | (refine T_cV (As := [_, _, _]) (d1 := 5) (pc1 := 18) (pc := 15) k_M_loses_15 rfl (by decide) (Nat.le_of_ble_eq_true rfl) rfl o_M_bestOf l_M_180 rfl (by first | exact ga G (by decide) rfl | assumption) rfl (c_M_bestOf G hN ok ha hb (fun J hJ hD => ?_)) <;> try dsimp only [psh])
      | refine T_istore_n (pc1 := 19) (pc := 18) k_M_loses_18 rfl (Nat.le_of_ble_eq_true rfl) ?_
      | refine T_iload_n (pc1 := 20) (pc := 19) k_M_loses_19 rfl rfl ?_
      | refine T_ldc (v := (nI 1000000)) (pc1 := 22) (pc := 20) k_M_loses_20 rfl c_M_163 ?_
      | (with_reducible refine T_icmp_ltN (tgt := 30) (pc1 := 25) (pc := 22) k_M_loses_22 (by decide) (by decide) (by omega) (by omega) (fun hc => ?_) (fun hc => ?_) <;> first | (exfalso; omega) | skip)
      | refine T_icmp_lt_t (tgt := 30) (pc := 22) k_M_loses_22 rfl (by decide) ?_
      | refine T_icmp_lt_f (tgt := 30) (pc1 := 25) (pc := 22) k_M_loses_22 rfl rfl (by decide) ?_
      | refine T_icmp_lt (tgt := 30) (pc1 := 25) (pc := 22) k_M_loses_22 rfl rfl (fun hc => ?_) (fun hc => ?_)
      | refine T_ldc (v := (-1000000005)) (pc1 := 27) (pc := 25) k_M_loses_25 rfl c_M_103 ?_
      | refine T_goto (tgt := 39) (pc := 27) k_M_loses_27 rfl ?_
      | refine T_aload_n (pc1 := 31) (pc := 30) k_M_loses_30 rfl rfl ?_
      | refine T_aload_nN (pc1 := 31) (pc := 30) k_M_loses_30 rfl rfl ?_
      | refine T_iload_n (pc1 := 32) (pc := 31) k_M_loses_31 rfl rfl ?_
      | refine T_iload_n (pc1 := 33) (pc := 32) k_M_loses_32 rfl rfl ?_
      | refine T_iconst (v := (nI 0)) (pc1 := 34) (pc := 33) k_M_loses_33 rfl (by decide) ?_
      | (refine T_cV (As := [_, _, _]) (d1 := 6) (pc1 := 37) (pc := 34) k_M_loses_34 rfl (by decide) (Nat.le_of_ble_eq_true rfl) rfl o_M_minutesBehind l_M_186 rfl (by first | exact ga G (by decide) rfl | assumption) rfl (c_M_minutesBehind (m := 0) G ((hJ 102 (by decide)).trans hN) ok ha hb (by omega) (fun J2 hJ2 => ?_)) <;> try dsimp only [psh])
      | refine T_iload_n (pc1 := 38) (pc := 37) k_M_loses_37 rfl rfl ?_
      | refine T_isub (pc1 := 39) (pc := 38) k_M_loses_38 rfl ?_
      | refine T_retI (pc := 39) k_M_loses_39 rfl (by first | rfl | decide | assumption) ?_)
    all_goals first | (exfalso; exact hw hok) | exact kk _ _ (eqx_tr (eqx_mono hJ (by decide)) hJ2) (by rw [if_neg (by omega)]; rfl) | exact kk _ _ (eqx_mono hJ (by decide)) (by rw [if_pos (by omega)])
  · rw [losesA, if_neg hok] at kk
    repeat' (first
      | refine T_iload_n (pc1 := 1) (pc := 0) k_M_loses_0 rfl rfl ?_
      | refine T_iload_n (pc1 := 2) (pc := 1) k_M_loses_1 rfl rfl ?_
      | (refine T_cS (As := [_, _]) (d1 := 3) (pc1 := 5) (pc := 2) k_M_loses_2 rfl (by decide) (Nat.le_of_ble_eq_true rfl) rfl o_M_areSpots l_M_107 rfl (c_M_areSpots (fun hw => ?_) (fun hw => ?_)) <;> try dsimp only [psh])
      | (with_reducible refine T_if_neN (tgt := 11) (pc1 := 8) (pc := 5) k_M_loses_5 (by decide) (by decide) (by omega) (fun hc => ?_) (fun hc => ?_) <;> first | (exfalso; omega) | skip)
      | refine T_if_ne_t (tgt := 11) (pc := 5) k_M_loses_5 rfl (by decide) ?_
      | refine T_if_ne_f (tgt := 11) (pc1 := 8) (pc := 5) k_M_loses_5 rfl rfl (by decide) ?_
      | refine T_if_ne (tgt := 11) (pc1 := 8) (pc := 5) k_M_loses_5 rfl rfl (fun hc => ?_) (fun hc => ?_)
      | refine T_ldc (v := (-1000000001)) (pc1 := 10) (pc := 8) k_M_loses_8 rfl c_M_111 ?_
      | refine T_retI (pc := 10) k_M_loses_10 rfl (by first | rfl | decide | assumption) ?_)
    all_goals first | exact kk _ _ eqx_rf rfl | (exfalso; exact hok (by assumption))
theorem c_M_behind {N : Row} {n tn : Nat} {f t m : Int32} (G : GeoOK g) (hN : I 102 = N) (ok : okL N n tn) (kk : ∀ J r, eqx [104, 105, 106, 112, 113] I J → r = behindA N n tn f t m → K (some (.int r)) g J) : Cl 7 M_M_behind [.ref 101, .int f, .int t, .int m] g I K := by
  show Rl 7 M_M_behind 0 [some (.ref 101), some (.int f), some (.int t), some (.int m)] [] g I K
  have e0 : (nI 0).toInt = 0 := rfl
  have e40 : (nI 40).toInt = 40 := rfl
  by_cases hok : (rg 8 f ∧ rg 8 t) ∧ bt 0 40 m
  · rw [behindA, if_pos hok] at kk
    obtain ⟨a, ha, rfl⟩ := rg_of hok.1.1 (by omega)
    obtain ⟨b, hb, rfl⟩ := rg_of hok.1.2 (by omega)
    obtain ⟨q, -, hq, rfl⟩ := bt_of (lo := 0) (hi := 40) hok.2 (by omega)
    have eq1 := nI_toInt (n := q) (by omega)
    rw [nI_clamp (by omega), nI_clamp (by omega), nI_clamp (by omega)] at kk
    repeat' (first
      | refine T_iload_n (pc1 := 1) (pc := 0) k_M_behind_0 rfl rfl ?_
      | refine T_iload_n (pc1 := 2) (pc := 1) k_M_behind_1 rfl rfl ?_
      | (refine T_cS (As := [_, _]) (d1 := 3) (pc1 := 5) (pc := 2) k_M_behind_2 rfl (by decide) (Nat.le_of_ble_eq_true rfl) rfl o_M_areSpots l_M_107 rfl (c_M_areSpots (fun hw => ?_) (fun hw => ?_)) <;> try dsimp only [psh])
      | (with_reducible refine T_if_eqN (tgt := 28) (pc1 := 8) (pc := 5) k_M_behind_5 (by decide) (by decide) (by omega) (fun hc => ?_) (fun hc => ?_) <;> first | (exfalso; omega) | skip)
      | refine T_if_eq_t (tgt := 28) (pc := 5) k_M_behind_5 rfl (by decide) ?_
      | refine T_if_eq_f (tgt := 28) (pc1 := 8) (pc := 5) k_M_behind_5 rfl rfl (by decide) ?_
      | refine T_if_eq (tgt := 28) (pc1 := 8) (pc := 5) k_M_behind_5 rfl rfl (fun hc => ?_) (fun hc => ?_)
      | refine T_iload_n (pc1 := 9) (pc := 8) k_M_behind_8 rfl rfl ?_
      | refine T_iconst (v := (nI 0)) (pc1 := 10) (pc := 9) k_M_behind_9 rfl (by decide) ?_
      | refine T_bipush (v := (nI 40)) (pc1 := 12) (pc := 10) k_M_behind_10 rfl (by decide) ?_
      | (refine T_cS (As := [_, _, _]) (d1 := 1) (pc1 := 15) (pc := 12) k_M_behind_12 rfl (by decide) (Nat.le_of_ble_eq_true rfl) rfl o_M_within l_M_95 rfl (c_M_within (fun hw => ?_) (fun hw => ?_)) <;> try dsimp only [psh])
      | (with_reducible refine T_if_eqN (tgt := 28) (pc1 := 18) (pc := 15) k_M_behind_15 (by decide) (by decide) (by omega) (fun hc => ?_) (fun hc => ?_) <;> first | (exfalso; omega) | skip)
      | refine T_if_eq_t (tgt := 28) (pc := 15) k_M_behind_15 rfl (by decide) ?_
      | refine T_if_eq_f (tgt := 28) (pc1 := 18) (pc := 15) k_M_behind_15 rfl rfl (by decide) ?_
      | refine T_if_eq (tgt := 28) (pc1 := 18) (pc := 15) k_M_behind_15 rfl rfl (fun hc => ?_) (fun hc => ?_)
      | refine T_aload_n (pc1 := 19) (pc := 18) k_M_behind_18 rfl rfl ?_
      | refine T_aload_nN (pc1 := 19) (pc := 18) k_M_behind_18 rfl rfl ?_
      | refine T_iload_n (pc1 := 20) (pc := 19) k_M_behind_19 rfl rfl ?_
      | refine T_iload_n (pc1 := 21) (pc := 20) k_M_behind_20 rfl rfl ?_
      | refine T_iload_n (pc1 := 22) (pc := 21) k_M_behind_21 rfl rfl ?_
      | (refine T_cV (As := [_, _, _]) (d1 := 6) (pc1 := 25) (pc := 22) k_M_behind_22 rfl (by decide) (Nat.le_of_ble_eq_true rfl) rfl o_M_minutesBehind l_M_186 rfl (by first | exact ga G (by decide) rfl | assumption) rfl (c_M_minutesBehind G hN ok ha hb (by omega) (fun J hJ => ?_)) <;> try dsimp only [psh])
      | refine T_goto (tgt := 30) (pc := 25) k_M_behind_25 rfl ?_
      | refine T_ldc (v := (-1000000001)) (pc1 := 30) (pc := 28) k_M_behind_28 rfl c_M_111 ?_
      | refine T_retI (pc := 30) k_M_behind_30 rfl (by first | rfl | decide | assumption) ?_)
    all_goals first | exact kk _ _ hJ rfl | (exfalso; exact hw hok.1) | (exfalso; apply hw; constructor <;> omega)
  · rw [behindA, if_neg hok] at kk
    repeat' (first
      | refine T_iload_n (pc1 := 1) (pc := 0) k_M_behind_0 rfl rfl ?_
      | refine T_iload_n (pc1 := 2) (pc := 1) k_M_behind_1 rfl rfl ?_
      | (refine T_cS (As := [_, _]) (d1 := 3) (pc1 := 5) (pc := 2) k_M_behind_2 rfl (by decide) (Nat.le_of_ble_eq_true rfl) rfl o_M_areSpots l_M_107 rfl (c_M_areSpots (fun hw => ?_) (fun hw => ?_)) <;> try dsimp only [psh])
      | (with_reducible refine T_if_eqN (tgt := 28) (pc1 := 8) (pc := 5) k_M_behind_5 (by decide) (by decide) (by omega) (fun hc => ?_) (fun hc => ?_) <;> first | (exfalso; omega) | skip)
      | refine T_if_eq_t (tgt := 28) (pc := 5) k_M_behind_5 rfl (by decide) ?_
      | refine T_if_eq_f (tgt := 28) (pc1 := 8) (pc := 5) k_M_behind_5 rfl rfl (by decide) ?_
      | refine T_if_eq (tgt := 28) (pc1 := 8) (pc := 5) k_M_behind_5 rfl rfl (fun hc => ?_) (fun hc => ?_)
      | refine T_iload_n (pc1 := 9) (pc := 8) k_M_behind_8 rfl rfl ?_
      | refine T_iconst (v := (nI 0)) (pc1 := 10) (pc := 9) k_M_behind_9 rfl (by decide) ?_
      | refine T_bipush (v := (nI 40)) (pc1 := 12) (pc := 10) k_M_behind_10 rfl (by decide) ?_
      | (refine T_cS (As := [_, _, _]) (d1 := 1) (pc1 := 15) (pc := 12) k_M_behind_12 rfl (by decide) (Nat.le_of_ble_eq_true rfl) rfl o_M_within l_M_95 rfl (c_M_within (fun hw => ?_) (fun hw => ?_)) <;> try dsimp only [psh])
      | (with_reducible refine T_if_eqN (tgt := 28) (pc1 := 18) (pc := 15) k_M_behind_15 (by decide) (by decide) (by omega) (fun hc => ?_) (fun hc => ?_) <;> first | (exfalso; omega) | skip)
      | refine T_if_eq_t (tgt := 28) (pc := 15) k_M_behind_15 rfl (by decide) ?_
      | refine T_if_eq_f (tgt := 28) (pc1 := 18) (pc := 15) k_M_behind_15 rfl rfl (by decide) ?_
      | refine T_if_eq (tgt := 28) (pc1 := 18) (pc := 15) k_M_behind_15 rfl rfl (fun hc => ?_) (fun hc => ?_)
      | refine T_aload_n (pc1 := 19) (pc := 18) k_M_behind_18 rfl rfl ?_
      | refine T_aload_nN (pc1 := 19) (pc := 18) k_M_behind_18 rfl rfl ?_
      | refine T_iload_n (pc1 := 20) (pc := 19) k_M_behind_19 rfl rfl ?_
      | refine T_iload_n (pc1 := 21) (pc := 20) k_M_behind_20 rfl rfl ?_
      | refine T_iload_n (pc1 := 22) (pc := 21) k_M_behind_21 rfl rfl ?_
      | refine T_goto (tgt := 30) (pc := 25) k_M_behind_25 rfl ?_
      | refine T_ldc (v := (-1000000001)) (pc1 := 30) (pc := 28) k_M_behind_28 rfl c_M_111 ?_
      | refine T_retI (pc := 30) k_M_behind_30 rfl (by first | rfl | decide | assumption) ?_)
    all_goals first | exact kk _ _ eqx_rf rfl | (exfalso; exact hok ⟨by assumption, by constructor <;> omega⟩)
end M11
