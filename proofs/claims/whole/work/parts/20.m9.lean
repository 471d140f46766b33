/-! A walk keeps a land in order; the model's walk. -/
section PU5
/-- two rows agree on bit b, on the weather and the guess, and on all texts -/
def agr (N N' : Row) (b : Nat) : Prop := (∀ k, k < 6 → bf N' b k = bf N b k) ∧ N' 3 = N 3 ∧ N' 4 = N 4 ∧ ∀ k, 156 ≤ k → N' k = N k
theorem txt_agr {N N' : Row} (h : ∀ k, 156 ≤ k → N' k = N k) (key : Nat) : ∀ t, txt N' key t = txt N key t
  | 0 => rfl
  | t + 1 => by unfold txt; rw [h _ (by omega), txt_agr h key t]
theorem cod_agr {N N' : Row} (h : ∀ k, 156 ≤ k → N' k = N k) (t : Nat) : cod N' t = cod N t := funext fun k => h _ (by omega)
theorem evl_agr {N N' : Row} (h : ∀ k, 156 ≤ k → N' k = N k) (t m : Nat) (nm : Row) : evl N' t m nm = evl N t m nm := by unfold evl; rw [cod_agr h]
theorem pln_agr {N N' : Row} {b tn : Nat} (h : agr N N' b) : pln N' tn b = pln N tn b := by
  unfold pln
  rw [txt_agr h.2.2.2, h.1 3 (by decide), h.1 4 (by decide), h.2.1]
  cases txt N 0 tn with
  | none => rfl
  | some t => dsimp only; rw [h.2.2.2 _ (by omega), evl_agr h.2.2.2]
theorem tkI_agr {N N' : Row} {b tn : Nat} (h : agr N N' b) : tkI N' tn b = tkI N tn b := by
  unfold tkI
  rw [pln_agr h, h.1 0 (by decide), h.1 3 (by decide), h.1 4 (by decide), h.2.1]
theorem thI_agr {N N' : Row} {b tn : Nat} (h : agr N N' b) : thI N' tn b = thI N tn b := by
  unfold thI
  rw [txt_agr h.2.2.2, h.1 5 (by decide), h.1 0 (by decide), h.2.2.1]
  cases txt N 1 tn with
  | none => rfl
  | some t => dsimp only; rw [h.2.2.2 _ (by omega), evl_agr h.2.2.2]
theorem brd_agr {N N' : Row} {b : Nat} (h : agr N N' b) : brd N' b = brd N b := by
  unfold brd
  rw [h.1 0 (by decide), h.1 3 (by decide), h.2.1]
theorem ed_agr {N N' : Row} {b : Nat} (h : agr N N' b) : ed N' b = ed N b := by
  unfold ed
  rw [h.1 1 (by decide), h.1 2 (by decide)]
theorem okB_agr {N N' : Row} {b : Nat} (h : ∀ k, k < 6 → bf N' b k = bf N b k) (o : okB N b) : okB N' b := by
  unfold okB
  rw [h 0 (by decide), h 1 (by decide), h 2 (by decide), h 3 (by decide), h 4 (by decide), h 5 (by decide)]
  exact o
theorem okT_agr {N N' : Row} {t : Nat} (h : ∀ k, 156 ≤ k → N' k = N k) (o : okT N t) : okT N' t := by
  unfold okT
  rw [h _ (by omega), h _ (by omega), h _ (by omega), cod_agr h]
  exact o
theorem okL_agr {N N' : Row} {n tn : Nat} (ok : okL N n tn) (h3 : N' 3 = N 3) (h4 : N' 4 = N 4) (h5 : N' 5 = N 5) (h6 : N' 6 = N 6) (hb : ∀ b, b < n → okB N' b) (ht : ∀ k, 156 ≤ k → N' k = N k) : okL N' n tn := by
  obtain ⟨a1, a2, a3, a4, a5, a6, a7, a8⟩ := ok
  exact ⟨h5.trans a1, a2, h6.trans a3, a4, hb, fun t h => okT_agr ht (a6 t h), by rw [h3]; exact a7, by rw [h4]; exact a8⟩
theorem bf_up {N : Row} {i b k : Nat} {v : Int32} (hi : i < 12 ∨ 96 ≤ i) (hb : b < 14) (hk : k < 6) : bf (va_up N i v) b k = bf N b k := by
  unfold bf
  rw [va_up_ne _ _ (by omega)]
theorem agr_up {N : Row} {i b : Nat} {v : Int32} (hi : 96 ≤ i ∧ i < 156) (hb : b < 14) : agr N (va_up N i v) b := ⟨fun k hk => bf_up (by omega) hb hk, va_up_ne _ _ (by omega), va_up_ne _ _ (by omega), fun k hk => va_up_ne _ _ (by omega)⟩
theorem okL_up {N : Row} {n tn i : Nat} {v : Int32} (ok : okL N n tn) (hi : (96 ≤ i ∧ i < 156) ∨ i < 3 ∨ (7 ≤ i ∧ i < 12)) : okL (va_up N i v) n tn := by
  have h14 := ok.2.1
  exact okL_agr ok (va_up_ne _ _ (by omega)) (va_up_ne _ _ (by omega)) (va_up_ne _ _ (by omega)) (va_up_ne _ _ (by omega)) (fun b hb => okB_agr (fun k hk => bf_up (by omega) (by omega) hk) (ok.2.2.2.2.1 b hb)) (fun k hk => va_up_ne _ _ (by omega))
theorem goN_ne {N : Row} {tn b tr k : Nat} (h1 : k ≠ 96 + tr) (h2 : k ≠ 12 + 6 * b + 5) (h3 : k ≠ 12 + 6 * b + 4) : goN N tn b tr k = N k := by
  unfold goN
  rw [va_up_ne _ _ h3, va_up_ne _ _ h2, va_up_ne _ _ h1]
theorem goN_bf {N : Row} {tn b tr b2 k : Nat} (hb : b < 14) (hb2 : b2 < 14) (hk : k < 6) (h : b2 ≠ b ∨ k < 4) : bf (goN N tn b tr) b2 k = bf N b2 k := by
  unfold bf
  exact goN_ne (by omega) (by omega) (by omega)
theorem goN_5 {N : Row} {tn b tr : Nat} : bf (goN N tn b tr) b 5 = nI (min 999 (tkk N tn b)) := by
  unfold bf goN
  rw [va_up_ne _ _ (by omega), va_up_self]
theorem goN_4 {N : Row} {tn b tr : Nat} : bf (goN N tn b tr) b 4 = jmin (nI 999) (bf N b 4 + nI 1) := by
  unfold bf goN
  rw [va_up_self]
  rfl
theorem goN_agr {N : Row} {tn b tr b2 : Nat} (hb : b < 14) (hb2 : b2 < 14) (ht : tr < 60) (h : b2 ≠ b) : agr N (goN N tn b tr) b2 := ⟨fun k hk => goN_bf hb hb2 hk (Or.inl h), goN_ne (by omega) (by omega) (by omega), goN_ne (by omega) (by omega) (by omega), fun k hk => goN_ne (by omega) (by omega) (by omega)⟩
theorem trod_eq {r : Nat} (hr : r ≤ 999) : jmin (nI 999) (nI r + nI 1) = nI (min 999 (r + 1)) := by rw [nI_add, jmin_nI (by decide) (by omega)]
theorem okL_go {N : Row} {n tn b tr : Nat} (ok : okL N n tn) (hb : b < n) (ht : tr < 60) : okL (goN N tn b tr) n tn := by
  have h14 := ok.2.1
  refine okL_agr ok (goN_ne (by omega) (by omega) (by omega)) (goN_ne (by omega) (by omega) (by omega)) (goN_ne (by omega) (by omega) (by omega)) (goN_ne (by omega) (by omega) (by omega)) (fun b2 hb2 => ?_) (fun k hk => goN_ne (by omega) (by omega) (by omega))
  by_cases h : b2 = b
  · subst h
    obtain ⟨k, o, t, l, r, a0, a0', a1, a1', a2, a2', ane, a3, a3', a3'', a4, a4', a5⟩ := ok.2.2.2.2.1 b2 hb
    refine ⟨k, o, t, l, min 999 (r + 1), ?_, a0', ?_, a1', ?_, a2', ane, ?_, a3', a3'', ?_, by omega, Or.inr ⟨min 999 (tkk N tn b2), by omega, goN_5⟩⟩
    · rw [goN_bf (by omega) (by omega) (by decide) (Or.inr (by decide))]; exact a0
    · rw [goN_bf (by omega) (by omega) (by decide) (Or.inr (by decide))]; exact a1
    · rw [goN_bf (by omega) (by omega) (by decide) (Or.inr (by decide))]; exact a2
    · rw [goN_bf (by omega) (by omega) (by decide) (Or.inr (by decide))]; exact a3
    · rw [goN_4, a4, trod_eq a4']
  · exact okB_agr (fun k hk => goN_bf (by omega) (by omega) hk (Or.inl h)) (ok.2.2.2.2.1 b2 hb2)
theorem oe_lt {N : Row} {n tn b at0 : Nat} (ok : okL N n tn) (hb : b < n) : oe N b at0 < 8 := by
  obtain ⟨h1, h2, -⟩ := okL_E ok b hb
  unfold oe
  split <;> omega
theorem nxt_in {N : Row} {n at0 to0 b : Nat} {c : Nf} (h : nxt N n c at0 to0 = some b) : b < n ∧ c b ≠ 0 ∧ ((ed N b).1 = at0 ∨ ((ed N b).1 ≠ at0 ∧ (ed N b).2 = at0)) := by
  unfold nxt at h
  by_cases hd : dst (ed N) c n to0 at0 < 1000000
  · rw [if_pos hd] at h
    obtain ⟨-, h2, h3⟩ := lsq_in h
    obtain ⟨q1, q2⟩ := fbP_iff.mp h3
    exact ⟨by omega, q1, q2.elim (fun z => Or.inl z.1) (fun z => Or.inr ⟨z.1, z.2.1⟩)⟩
  · rw [if_neg hd] at h; cases h
end PU5
section M9
variable {g : Geo} {I : IM} {K : Option Value → Geo → IM → Prop}
set_option maxRecDepth 100000 in
set_option maxHeartbeats 8000000 in
theorem c_M_walks {N : Row} {n tn fr to0 : Nat} (G : GeoOK g) (hN : I 102 = N) (ok : okL N n tn) (hf : fr < 8) (ht : to0 < 8) (kk : ∀ J, eqx [102, 105, 106, 112, 113] I J → J 102 = wkN N n tn fr to0 → K (some (.int (nI (wkM N n tn fr to0)))) g J) : Cl 5 M_M_walks [.ref 101, .int (nI fr), .int (nI to0)] g I K := by
  show Rl 5 M_M_walks 0 [some (.ref 101), some (.int (nI fr)), some (.int (nI to0)), none, none, none, none, none, none, none] [] g I K
  have h14 := ok.2.1
  unfold wkN wkM at kk
  generalize hW : wkW N n tn fr to0 = Wr at kk
  unfold wkW at hW
  have fin : ∀ at0 x4 mi tr how (N : Row) (J : IM) o8 o9, eqx [102, 105, 106, 112, 113] I J → J 102 = N → (at0, how, mi, tr, N) = Wr → Rl 5 M_M_walks 180 [some (.ref 101), some (.int (nI fr)), some (.int (nI to0)), some (.int (nI at0)), x4, some (.int (nI mi)), some (.int (nI tr)), some (.int (nI how)), o8, o9] [] g J K := by
    intro at0 x4 mi tr how N J o8 o9 hJ hJN hw
    subst hw
    repeat' (first
      | refine T_iload_n (pc1 := 1) (pc := 0) k_M_walks_0 rfl rfl ?_
      | refine T_istore_n (pc1 := 2) (pc := 1) k_M_walks_1 rfl (Nat.le_of_ble_eq_true rfl) ?_
      | refine T_iconst (v := (nI 0)) (pc1 := 3) (pc := 2) k_M_walks_2 rfl (by decide) ?_
      | refine T_istore (pc1 := 5) (pc := 3) k_M_walks_3 rfl (Nat.le_of_ble_eq_true rfl) ?_
      | refine T_iconst (v := (nI 0)) (pc1 := 6) (pc := 5) k_M_walks_5 rfl (by decide) ?_
      | refine T_istore (pc1 := 8) (pc := 6) k_M_walks_6 rfl (Nat.le_of_ble_eq_true rfl) ?_
      | refine T_iconst (v := (nI 0)) (pc1 := 9) (pc := 8) k_M_walks_8 rfl (by decide) ?_
      | refine T_istore (pc1 := 11) (pc := 9) k_M_walks_9 rfl (Nat.le_of_ble_eq_true rfl) ?_
      | refine T_iconst (v := (nI 0)) (pc1 := 12) (pc := 11) k_M_walks_11 rfl (by decide) ?_
      | refine T_istore (pc1 := 14) (pc := 12) k_M_walks_12 rfl (Nat.le_of_ble_eq_true rfl) ?_
      | refine T_iload_n (pc1 := 15) (pc := 14) k_M_walks_14 rfl rfl ?_
      | refine T_iload_n (pc1 := 16) (pc := 15) k_M_walks_15 rfl rfl ?_
      | (with_reducible refine T_icmp_eqN (tgt := 180) (pc1 := 19) (pc := 16) k_M_walks_16 (by decide) (by decide) (by omega) (by omega) (fun hc => ?_) (fun hc => ?_) <;> first | (exfalso; omega) | skip)
      | refine T_icmp_eq_t (tgt := 180) (pc := 16) k_M_walks_16 rfl (by decide) ?_
      | refine T_icmp_eq_f (tgt := 180) (pc1 := 19) (pc := 16) k_M_walks_16 rfl rfl (by decide) ?_
      | refine T_icmp_eq (tgt := 180) (pc1 := 19) (pc := 16) k_M_walks_16 rfl rfl (fun hc => ?_) (fun hc => ?_)
      | refine T_iload (pc1 := 21) (pc := 19) k_M_walks_19 rfl rfl ?_
      | (with_reducible refine T_if_neN (tgt := 180) (pc1 := 24) (pc := 21) k_M_walks_21 (by decide) (by decide) (by omega) (fun hc => ?_) (fun hc => ?_) <;> first | (exfalso; omega) | skip)
      | refine T_if_ne_t (tgt := 180) (pc := 21) k_M_walks_21 rfl (by decide) ?_
      | refine T_if_ne_f (tgt := 180) (pc1 := 24) (pc := 21) k_M_walks_21 rfl rfl (by decide) ?_
      | refine T_if_ne (tgt := 180) (pc1 := 24) (pc := 21) k_M_walks_21 rfl rfl (fun hc => ?_) (fun hc => ?_)
      | refine T_aload_n (pc1 := 25) (pc := 24) k_M_walks_24 rfl rfl ?_
      | refine T_aload_nN (pc1 := 25) (pc := 24) k_M_walks_24 rfl rfl ?_
      | refine T_iload_n (pc1 := 26) (pc := 25) k_M_walks_25 rfl rfl ?_
      | refine T_iload_n (pc1 := 27) (pc := 26) k_M_walks_26 rfl rfl ?_
      | refine T_iload (pc1 := 29) (pc := 27) k_M_walks_27 rfl rfl ?_
      | refine T_istore (pc1 := 34) (pc := 32) k_M_walks_32 rfl (Nat.le_of_ble_eq_true rfl) ?_
      | refine T_iload (pc1 := 36) (pc := 34) k_M_walks_34 rfl rfl ?_
      | (with_reducible refine T_if_geN (tgt := 43) (pc1 := 39) (pc := 36) k_M_walks_36 (by decide) (by decide) (by omega) ?_ <;> first | (exfalso; omega) | skip)
      | refine T_if_ge_t (tgt := 43) (pc := 36) k_M_walks_36 rfl (by decide) ?_
      | refine T_if_ge_f (tgt := 43) (pc1 := 39) (pc := 36) k_M_walks_36 rfl rfl (by decide) ?_
      | refine T_if_ge (tgt := 43) (pc1 := 39) (pc := 36) k_M_walks_36 rfl rfl (fun hc => ?_) (fun hc => ?_)
      | refine T_iconst (v := (nI 1)) (pc1 := 40) (pc := 39) k_M_walks_39 rfl (by decide) ?_
      | refine T_goto (tgt := 55) (pc := 40) k_M_walks_40 rfl ?_
      | refine T_iload (pc1 := 45) (pc := 43) k_M_walks_43 rfl rfl ?_
      | refine T_bipush (v := (nI 60)) (pc1 := 47) (pc := 45) k_M_walks_45 rfl (by decide) ?_
      | (with_reducible refine T_icmp_neN (tgt := 54) (pc1 := 50) (pc := 47) k_M_walks_47 (by decide) (by decide) (by omega) (by omega) (fun hc => ?_) (fun hc => ?_) <;> first | (exfalso; omega) | skip)
      | refine T_icmp_ne_t (tgt := 54) (pc := 47) k_M_walks_47 rfl (by decide) ?_
      | refine T_icmp_ne_f (tgt := 54) (pc1 := 50) (pc := 47) k_M_walks_47 rfl rfl (by decide) ?_
      | refine T_icmp_ne (tgt := 54) (pc1 := 50) (pc := 47) k_M_walks_47 rfl rfl (fun hc => ?_) (fun hc => ?_)
      | refine T_iconst (v := (nI 2)) (pc1 := 51) (pc := 50) k_M_walks_50 rfl (by decide) ?_
      | refine T_goto (tgt := 55) (pc := 51) k_M_walks_51 rfl ?_
      | refine T_iconst (v := (nI 0)) (pc1 := 55) (pc := 54) k_M_walks_54 rfl (by decide) ?_
      | refine T_istore (pc1 := 57) (pc := 55) k_M_walks_55 rfl (Nat.le_of_ble_eq_true rfl) ?_
      | refine T_iload (pc1 := 59) (pc := 57) k_M_walks_57 rfl rfl ?_
      | (with_reducible refine T_if_neN (tgt := 177) (pc1 := 62) (pc := 59) k_M_walks_59 (by decide) (by decide) (by omega) (fun hc => ?_) (fun hc => ?_) <;> first | (exfalso; omega) | skip)
      | refine T_if_ne_t (tgt := 177) (pc := 59) k_M_walks_59 rfl (by decide) ?_
      | refine T_if_ne_f (tgt := 177) (pc1 := 62) (pc := 59) k_M_walks_59 rfl rfl (by decide) ?_
      | refine T_if_ne (tgt := 177) (pc1 := 62) (pc := 59) k_M_walks_59 rfl rfl (fun hc => ?_) (fun hc => ?_)
      | refine T_aload_n (pc1 := 63) (pc := 62) k_M_walks_62 rfl rfl ?_
      | refine T_aload_nN (pc1 := 63) (pc := 62) k_M_walks_62 rfl rfl ?_
      | refine T_getR (pc1 := 66) (pc := 63) k_M_walks_63 rfl f_M_9 rfl (by first | exact ga G (by decide) rfl | assumption) (by first | exact gr G (by decide) rfl | assumption) ?_
      | refine T_bipush (v := (nI 96)) (pc1 := 68) (pc := 66) k_M_walks_66 rfl (by decide) ?_
      | refine T_iload (pc1 := 70) (pc := 68) k_M_walks_68 rfl rfl ?_
      | with_reducible refine T_iaddN (pc1 := 71) (pc := 70) k_M_walks_70 (by decide) ?_
      | refine T_iadd (pc1 := 71) (pc := 70) k_M_walks_70 rfl ?_
      | refine T_iload (pc1 := 73) (pc := 71) k_M_walks_71 rfl rfl ?_
      | refine T_iastN (pc1 := 74) (pc := 73) k_M_walks_73 rfl (by first | exact ga G (by decide) rfl | assumption) (by omega) (by omega) ?_
      | refine T_iincN (b := 1) (pc1 := 77) (pc := 74) k_M_walks_74 rfl rfl (by decide) ?_
      | refine T_iinc (v := (nI 1)) (pc1 := 77) (pc := 74) k_M_walks_74 rfl rfl (by decide) ?_
      | refine T_aload_n (pc1 := 78) (pc := 77) k_M_walks_77 rfl rfl ?_
      | refine T_aload_nN (pc1 := 78) (pc := 77) k_M_walks_77 rfl rfl ?_
      | refine T_iload (pc1 := 80) (pc := 78) k_M_walks_78 rfl rfl ?_
      | (refine T_cV (As := [_]) (d1 := 3) (pc1 := 83) (pc := 80) k_M_walks_80 rfl (by decide) (Nat.le_of_ble_eq_true rfl) rfl o_M_isBarred l_M_146 rfl (by first | exact ga G (by decide) rfl | assumption) rfl (c_M_isBarred G (by assumption) (by assumption) (by assumption) (fun hb1 => ?_) (fun hb1 => ?_)) <;> try dsimp only [psh])
      | (with_reducible refine T_if_eqN (tgt := 101) (pc1 := 86) (pc := 83) k_M_walks_83 (by decide) (by decide) (by omega) (fun hc => ?_) (fun hc => ?_) <;> first | (exfalso; omega) | skip)
      | refine T_if_eq_t (tgt := 101) (pc := 83) k_M_walks_83 rfl (by decide) ?_
      | refine T_if_eq_f (tgt := 101) (pc1 := 86) (pc := 83) k_M_walks_83 rfl rfl (by decide) ?_
      | refine T_if_eq (tgt := 101) (pc1 := 86) (pc := 83) k_M_walks_83 rfl rfl (fun hc => ?_) (fun hc => ?_)
      | refine T_iload (pc1 := 88) (pc := 86) k_M_walks_86 rfl rfl ?_
      | refine T_iconst (v := (nI 1)) (pc1 := 89) (pc := 88) k_M_walks_88 rfl (by decide) ?_
      | refine T_iload (pc1 := 91) (pc := 89) k_M_walks_89 rfl rfl ?_
      | refine T_ishl (pc1 := 92) (pc := 91) k_M_walks_91 rfl ?_
      | refine T_ior (pc1 := 93) (pc := 92) k_M_walks_92 rfl ?_
      | refine T_istore (pc1 := 95) (pc := 93) k_M_walks_93 rfl (Nat.le_of_ble_eq_true rfl) ?_
      | refine T_iincN (b := 1) (pc1 := 98) (pc := 95) k_M_walks_95 rfl rfl (by decide) ?_
      | refine T_iinc (v := (nI 1)) (pc1 := 98) (pc := 95) k_M_walks_95 rfl rfl (by decide) ?_
      | refine T_goto (tgt := 177) (pc := 98) k_M_walks_98 rfl ?_
      | refine T_aload_n (pc1 := 102) (pc := 101) k_M_walks_101 rfl rfl ?_
      | refine T_aload_nN (pc1 := 102) (pc := 101) k_M_walks_101 rfl rfl ?_
      | refine T_iload (pc1 := 104) (pc := 102) k_M_walks_102 rfl rfl ?_
      | (refine T_cV (As := [_]) (d1 := 4) (pc1 := 107) (pc := 104) k_M_walks_104 rfl (by decide) (Nat.le_of_ble_eq_true rfl) rfl o_M_takes l_M_143 rfl (by first | exact ga G (by decide) rfl | assumption) rfl (c_M_takes G (by assumption) (by assumption) (by assumption) (fun J hJ => ?_)) <;> try dsimp only [psh])
      | refine T_istore (pc1 := 109) (pc := 107) k_M_walks_107 rfl (Nat.le_of_ble_eq_true rfl) ?_
      | refine T_iload (pc1 := 111) (pc := 109) k_M_walks_109 rfl rfl ?_
      | refine T_iload (pc1 := 113) (pc := 111) k_M_walks_111 rfl rfl ?_
      | with_reducible refine T_iaddN (pc1 := 114) (pc := 113) k_M_walks_113 (by decide) ?_
      | refine T_iadd (pc1 := 114) (pc := 113) k_M_walks_113 rfl ?_
      | refine T_istore (pc1 := 116) (pc := 114) k_M_walks_114 rfl (Nat.le_of_ble_eq_true rfl) ?_
      | refine T_aload_n (pc1 := 117) (pc := 116) k_M_walks_116 rfl rfl ?_
      | refine T_aload_nN (pc1 := 117) (pc := 116) k_M_walks_116 rfl rfl ?_
      | refine T_getR (pc1 := 120) (pc := 117) k_M_walks_117 rfl f_M_9 rfl (by first | exact ga G (by decide) rfl | assumption) (by first | exact gr G (by decide) rfl | assumption) ?_
      | refine T_bipush (v := (nI 12)) (pc1 := 122) (pc := 120) k_M_walks_120 rfl (by decide) ?_
      | refine T_bipush (v := (nI 6)) (pc1 := 124) (pc := 122) k_M_walks_122 rfl (by decide) ?_
      | refine T_iload (pc1 := 126) (pc := 124) k_M_walks_124 rfl rfl ?_
      | with_reducible refine T_imulN (pc1 := 127) (pc := 126) k_M_walks_126 (by decide) ?_
      | refine T_imul (pc1 := 127) (pc := 126) k_M_walks_126 rfl ?_
      | with_reducible refine T_iaddN (pc1 := 128) (pc := 127) k_M_walks_127 (by decide) ?_
      | refine T_iadd (pc1 := 128) (pc := 127) k_M_walks_127 rfl ?_
      | refine T_iconst (v := (nI 5)) (pc1 := 129) (pc := 128) k_M_walks_128 rfl (by decide) ?_
      | with_reducible refine T_iaddN (pc1 := 130) (pc := 129) k_M_walks_129 (by decide) ?_
      | refine T_iadd (pc1 := 130) (pc := 129) k_M_walks_129 rfl ?_
      | refine T_sipush (v := (nI 999)) (pc1 := 133) (pc := 130) k_M_walks_130 rfl (by decide) ?_
      | refine T_iload (pc1 := 135) (pc := 133) k_M_walks_133 rfl rfl ?_
      | refine T_mminV (pc1 := 138) (pc := 135) k_M_walks_135 rfl l_M_82 (by decide) (Nat.le_of_ble_eq_true rfl) (by with_reducible rfl) (by with_reducible rfl) (by omega) (by omega) ?_
      | refine T_mmin (pc1 := 138) (pc := 135) k_M_walks_135 rfl l_M_82 (by decide) (Nat.le_of_ble_eq_true rfl) ?_
      | refine T_iastN (pc1 := 139) (pc := 138) k_M_walks_138 rfl (by first | exact ga G (by decide) rfl | assumption) (by omega) (by omega) ?_
      | refine T_aload_n (pc1 := 140) (pc := 139) k_M_walks_139 rfl rfl ?_
      | refine T_aload_nN (pc1 := 140) (pc := 139) k_M_walks_139 rfl rfl ?_
      | refine T_getR (pc1 := 143) (pc := 140) k_M_walks_140 rfl f_M_9 rfl (by first | exact ga G (by decide) rfl | assumption) (by first | exact gr G (by decide) rfl | assumption) ?_
      | refine T_bipush (v := (nI 12)) (pc1 := 145) (pc := 143) k_M_walks_143 rfl (by decide) ?_
      | refine T_bipush (v := (nI 6)) (pc1 := 147) (pc := 145) k_M_walks_145 rfl (by decide) ?_
      | refine T_iload (pc1 := 149) (pc := 147) k_M_walks_147 rfl rfl ?_
      | with_reducible refine T_imulN (pc1 := 150) (pc := 149) k_M_walks_149 (by decide) ?_
      | refine T_imul (pc1 := 150) (pc := 149) k_M_walks_149 rfl ?_
      | with_reducible refine T_iaddN (pc1 := 151) (pc := 150) k_M_walks_150 (by decide) ?_
      | refine T_iadd (pc1 := 151) (pc := 150) k_M_walks_150 rfl ?_
      | refine T_iconst (v := (nI 4)) (pc1 := 152) (pc := 151) k_M_walks_151 rfl (by decide) ?_
      | with_reducible refine T_iaddN (pc1 := 153) (pc := 152) k_M_walks_152 (by decide) ?_
      | refine T_iadd (pc1 := 153) (pc := 152) k_M_walks_152 rfl ?_
      | refine T_sipush (v := (nI 999)) (pc1 := 156) (pc := 153) k_M_walks_153 rfl (by decide) ?_
      | refine T_aload_n (pc1 := 157) (pc := 156) k_M_walks_156 rfl rfl ?_
      | refine T_aload_nN (pc1 := 157) (pc := 156) k_M_walks_156 rfl rfl ?_
      | refine T_iload (pc1 := 159) (pc := 157) k_M_walks_157 rfl rfl ?_
      | refine T_iconst (v := (nI 4)) (pc1 := 160) (pc := 159) k_M_walks_159 rfl (by decide) ?_
      | (refine T_cV (As := [_, _]) (d1 := 1) (pc1 := 163) (pc := 160) k_M_walks_160 rfl (by decide) (Nat.le_of_ble_eq_true rfl) rfl o_M_bitIs l_M_124 rfl (by first | exact ga G (by decide) rfl | assumption) rfl (c_M_bitN G (by assumption) (by omega) (by omega) (by first | assumption | rfl) ?_) <;> try dsimp only [psh])
      | refine T_iconst (v := (nI 1)) (pc1 := 164) (pc := 163) k_M_walks_163 rfl (by decide) ?_
      | with_reducible refine T_iaddN (pc1 := 165) (pc := 164) k_M_walks_164 (by decide) ?_
      | refine T_iadd (pc1 := 165) (pc := 164) k_M_walks_164 rfl ?_
      | refine T_mminV (pc1 := 168) (pc := 165) k_M_walks_165 rfl l_M_82 (by decide) (Nat.le_of_ble_eq_true rfl) (by with_reducible rfl) (by with_reducible rfl) (by omega) (by omega) ?_
      | refine T_mmin (pc1 := 168) (pc := 165) k_M_walks_165 rfl l_M_82 (by decide) (Nat.le_of_ble_eq_true rfl) ?_
      | refine T_iastN (pc1 := 169) (pc := 168) k_M_walks_168 rfl (by first | exact ga G (by decide) rfl | assumption) (by omega) (by omega) ?_
      | refine T_aload_n (pc1 := 170) (pc := 169) k_M_walks_169 rfl rfl ?_
      | refine T_aload_nN (pc1 := 170) (pc := 169) k_M_walks_169 rfl rfl ?_
      | refine T_iload (pc1 := 172) (pc := 170) k_M_walks_170 rfl rfl ?_
      | refine T_iload_n (pc1 := 173) (pc := 172) k_M_walks_172 rfl rfl ?_
      | refine T_istore_n (pc1 := 177) (pc := 176) k_M_walks_176 rfl (Nat.le_of_ble_eq_true rfl) ?_
      | refine T_goto (tgt := 14) (pc := 177) k_M_walks_177 rfl ?_
      | refine T_aload_n (pc1 := 181) (pc := 180) k_M_walks_180 rfl rfl ?_
      | refine T_aload_nN (pc1 := 181) (pc := 180) k_M_walks_180 rfl rfl ?_
      | refine T_getR (pc1 := 184) (pc := 181) k_M_walks_181 rfl f_M_9 rfl (by first | exact ga G (by decide) rfl | assumption) (by first | exact gr G (by decide) rfl | assumption) ?_
      | refine T_bipush (v := (nI 7)) (pc1 := 186) (pc := 184) k_M_walks_184 rfl (by decide) ?_
      | refine T_iconst (v := (nI 1)) (pc1 := 187) (pc := 186) k_M_walks_186 rfl (by decide) ?_
      | refine T_iastN (pc1 := 188) (pc := 187) k_M_walks_187 rfl (by first | exact ga G (by decide) rfl | assumption) (by omega) (by omega) ?_
      | refine T_aload_n (pc1 := 189) (pc := 188) k_M_walks_188 rfl rfl ?_
      | refine T_aload_nN (pc1 := 189) (pc := 188) k_M_walks_188 rfl rfl ?_
      | refine T_getR (pc1 := 192) (pc := 189) k_M_walks_189 rfl f_M_9 rfl (by first | exact ga G (by decide) rfl | assumption) (by first | exact gr G (by decide) rfl | assumption) ?_
      | refine T_bipush (v := (nI 8)) (pc1 := 194) (pc := 192) k_M_walks_192 rfl (by decide) ?_
      | refine T_iload (pc1 := 196) (pc := 194) k_M_walks_194 rfl rfl ?_
      | refine T_iastN (pc1 := 197) (pc := 196) k_M_walks_196 rfl (by first | exact ga G (by decide) rfl | assumption) (by omega) (by omega) ?_
      | refine T_aload_n (pc1 := 198) (pc := 197) k_M_walks_197 rfl rfl ?_
      | refine T_aload_nN (pc1 := 198) (pc := 197) k_M_walks_197 rfl rfl ?_
      | refine T_getR (pc1 := 201) (pc := 198) k_M_walks_198 rfl f_M_9 rfl (by first | exact ga G (by decide) rfl | assumption) (by first | exact gr G (by decide) rfl | assumption) ?_
      | refine T_bipush (v := (nI 9)) (pc1 := 203) (pc := 201) k_M_walks_201 rfl (by decide) ?_
      | refine T_iload (pc1 := 205) (pc := 203) k_M_walks_203 rfl rfl ?_
      | refine T_iastN (pc1 := 206) (pc := 205) k_M_walks_205 rfl (by first | exact ga G (by decide) rfl | assumption) (by omega) (by omega) ?_
      | refine T_aload_n (pc1 := 207) (pc := 206) k_M_walks_206 rfl rfl ?_
      | refine T_aload_nN (pc1 := 207) (pc := 206) k_M_walks_206 rfl rfl ?_
      | refine T_getR (pc1 := 210) (pc := 207) k_M_walks_207 rfl f_M_9 rfl (by first | exact ga G (by decide) rfl | assumption) (by first | exact gr G (by decide) rfl | assumption) ?_
      | refine T_bipush (v := (nI 10)) (pc1 := 212) (pc := 210) k_M_walks_210 rfl (by decide) ?_
      | refine T_iload_n (pc1 := 213) (pc := 212) k_M_walks_212 rfl rfl ?_
      | refine T_iastN (pc1 := 214) (pc := 213) k_M_walks_213 rfl (by first | exact ga G (by decide) rfl | assumption) (by omega) (by omega) ?_
      | refine T_aload_n (pc1 := 215) (pc := 214) k_M_walks_214 rfl rfl ?_
      | refine T_aload_nN (pc1 := 215) (pc := 214) k_M_walks_214 rfl rfl ?_
      | refine T_getR (pc1 := 218) (pc := 215) k_M_walks_215 rfl f_M_9 rfl (by first | exact ga G (by decide) rfl | assumption) (by first | exact gr G (by decide) rfl | assumption) ?_
      | refine T_bipush (v := (nI 11)) (pc1 := 220) (pc := 218) k_M_walks_218 rfl (by decide) ?_
      | refine T_iload (pc1 := 222) (pc := 220) k_M_walks_220 rfl rfl ?_
      | refine T_iastN (pc1 := 223) (pc := 222) k_M_walks_222 rfl (by first | exact ga G (by decide) rfl | assumption) (by omega) (by omega) ?_
      | refine T_aload_n (pc1 := 224) (pc := 223) k_M_walks_223 rfl rfl ?_
      | refine T_aload_nN (pc1 := 224) (pc := 223) k_M_walks_223 rfl rfl ?_
      | refine T_getR (pc1 := 227) (pc := 224) k_M_walks_224 rfl f_M_9 rfl (by first | exact ga G (by decide) rfl | assumption) (by first | exact gr G (by decide) rfl | assumption) ?_
      | refine T_iconst (v := (nI 1)) (pc1 := 228) (pc := 227) k_M_walks_227 rfl (by decide) ?_
      | refine T_dup2 (pc1 := 229) (pc := 228) k_M_walks_228 rfl rfl rfl ?_
      | refine T_ialdN (pc1 := 230) (pc := 229) k_M_walks_229 rfl (by first | exact ga G (by decide) rfl | assumption) (by omega) (by omega) (by first | assumption | (simp (disch := omega) only [pI_eq, pI_row, pI_col, va_up_self, va_up_ne, ne_eq, not_false_eq_true, hJN] <;> rfl) | rfl) ?_
      | refine T_iald (pc1 := 230) (pc := 229) k_M_walks_229 rfl (by first | exact ga G (by decide) rfl | assumption) (by assumption) ?_
      | refine T_iconst (v := (nI 1)) (pc1 := 231) (pc := 230) k_M_walks_230 rfl (by decide) ?_
      | with_reducible refine T_iaddN (pc1 := 232) (pc := 231) k_M_walks_231 (by decide) ?_
      | refine T_iadd (pc1 := 232) (pc := 231) k_M_walks_231 rfl ?_
      | refine T_iastN (pc1 := 233) (pc := 232) k_M_walks_232 rfl (by first | exact ga G (by decide) rfl | assumption) (by omega) (by omega) ?_
      | refine T_aload_n (pc1 := 234) (pc := 233) k_M_walks_233 rfl rfl ?_
      | refine T_aload_nN (pc1 := 234) (pc := 233) k_M_walks_233 rfl rfl ?_
      | refine T_getR (pc1 := 237) (pc := 234) k_M_walks_234 rfl f_M_9 rfl (by first | exact ga G (by decide) rfl | assumption) (by first | exact gr G (by decide) rfl | assumption) ?_
      | refine T_iconst (v := (nI 2)) (pc1 := 238) (pc := 237) k_M_walks_237 rfl (by decide) ?_
      | refine T_dup2 (pc1 := 239) (pc := 238) k_M_walks_238 rfl rfl rfl ?_
      | refine T_ialdN (pc1 := 240) (pc := 239) k_M_walks_239 rfl (by first | exact ga G (by decide) rfl | assumption) (by omega) (by omega) (by first | assumption | (simp (disch := omega) only [pI_eq, pI_row, pI_col, va_up_self, va_up_ne, ne_eq, not_false_eq_true, hJN] <;> rfl) | rfl) ?_
      | refine T_iald (pc1 := 240) (pc := 239) k_M_walks_239 rfl (by first | exact ga G (by decide) rfl | assumption) (by assumption) ?_
      | refine T_iload (pc1 := 242) (pc := 240) k_M_walks_240 rfl rfl ?_
      | with_reducible refine T_iaddN (pc1 := 243) (pc := 242) k_M_walks_242 (by decide) ?_
      | refine T_iadd (pc1 := 243) (pc := 242) k_M_walks_242 rfl ?_
      | refine T_iastN (pc1 := 244) (pc := 243) k_M_walks_243 rfl (by first | exact ga G (by decide) rfl | assumption) (by omega) (by omega) ?_
      | refine T_iload (pc1 := 246) (pc := 244) k_M_walks_244 rfl rfl ?_
      | refine T_retI (pc := 246) k_M_walks_246 rfl (by first | rfl | decide | assumption) ?_)
    refine kk _ (eqx_pI (eqx_pI (eqx_pI (eqx_pI (eqx_pI (eqx_pI (eqx_pI hJ _ (by decide)) _ (by decide)) _ (by decide)) _ (by decide)) _ (by decide)) _ (by decide)) _ (by decide)) ?_
    exact upI (upI (upI (upI (upI (upI (upI hJN))))))
  have loop : ∀ k at0 F mi tr (N : Row) (J : IM) o8 o9, k + tr = 61 → tr ≤ 60 → okL N n tn → at0 < 8 → F < 16384 → mi ≤ 2000 * tr → eqx [102, 105, 106, 112, 113] I J → J 102 = N → wkf n tn to0 k at0 F mi tr N = Wr → Rl 5 M_M_walks 14 [some (.ref 101), some (.int (nI fr)), some (.int (nI to0)), some (.int (nI at0)), some (.int (nI F)), some (.int (nI mi)), some (.int (nI tr)), some (.int (nI 0)), o8, o9] [] g J K := by
    intro k
    induction k with
    | zero =>
      intro at0 F mi tr N J o8 o9 hk h60' ok ha hF hmi hJ hJN hw
      exfalso
      omega
    | succ k ih =>
      intro at0 F mi tr N J o8 o9 hk h60' ok ha hF hmi hJ hJN hw
      unfold wkf at hw
      by_cases hat : at0 = to0
      · rw [if_pos hat] at hw
        repeat' (first
          | refine T_iload_n (pc1 := 1) (pc := 0) k_M_walks_0 rfl rfl ?_
          | refine T_istore_n (pc1 := 2) (pc := 1) k_M_walks_1 rfl (Nat.le_of_ble_eq_true rfl) ?_
          | refine T_iconst (v := (nI 0)) (pc1 := 3) (pc := 2) k_M_walks_2 rfl (by decide) ?_
          | refine T_istore (pc1 := 5) (pc := 3) k_M_walks_3 rfl (Nat.le_of_ble_eq_true rfl) ?_
          | refine T_iconst (v := (nI 0)) (pc1 := 6) (pc := 5) k_M_walks_5 rfl (by decide) ?_
          | refine T_istore (pc1 := 8) (pc := 6) k_M_walks_6 rfl (Nat.le_of_ble_eq_true rfl) ?_
          | refine T_iconst (v := (nI 0)) (pc1 := 9) (pc := 8) k_M_walks_8 rfl (by decide) ?_
          | refine T_istore (pc1 := 11) (pc := 9) k_M_walks_9 rfl (Nat.le_of_ble_eq_true rfl) ?_
          | refine T_iconst (v := (nI 0)) (pc1 := 12) (pc := 11) k_M_walks_11 rfl (by decide) ?_
          | refine T_istore (pc1 := 14) (pc := 12) k_M_walks_12 rfl (Nat.le_of_ble_eq_true rfl) ?_
          | refine T_iload_n (pc1 := 15) (pc := 14) k_M_walks_14 rfl rfl ?_
          | refine T_iload_n (pc1 := 16) (pc := 15) k_M_walks_15 rfl rfl ?_
          | (with_reducible refine T_icmp_eqN (tgt := 180) (pc1 := 19) (pc := 16) k_M_walks_16 (by decide) (by decide) (by omega) (by omega) (fun hc => ?_) (fun hc => ?_) <;> first | (exfalso; omega) | skip)
          | refine T_icmp_eq_t (tgt := 180) (pc := 16) k_M_walks_16 rfl (by decide) ?_
          | refine T_icmp_eq_f (tgt := 180) (pc1 := 19) (pc := 16) k_M_walks_16 rfl rfl (by decide) ?_
          | refine T_icmp_eq (tgt := 180) (pc1 := 19) (pc := 16) k_M_walks_16 rfl rfl (fun hc => ?_) (fun hc => ?_)
          | refine T_iload (pc1 := 21) (pc := 19) k_M_walks_19 rfl rfl ?_
          | (with_reducible refine T_if_neN (tgt := 180) (pc1 := 24) (pc := 21) k_M_walks_21 (by decide) (by decide) (by omega) (fun hc => ?_) (fun hc => ?_) <;> first | (exfalso; omega) | skip)
          | refine T_if_ne_t (tgt := 180) (pc := 21) k_M_walks_21 rfl (by decide) ?_
          | refine T_if_ne_f (tgt := 180) (pc1 := 24) (pc := 21) k_M_walks_21 rfl rfl (by decide) ?_
          | refine T_if_ne (tgt := 180) (pc1 := 24) (pc := 21) k_M_walks_21 rfl rfl (fun hc => ?_) (fun hc => ?_)
          | refine T_aload_n (pc1 := 25) (pc := 24) k_M_walks_24 rfl rfl ?_
          | refine T_aload_nN (pc1 := 25) (pc := 24) k_M_walks_24 rfl rfl ?_
          | refine T_iload_n (pc1 := 26) (pc := 25) k_M_walks_25 rfl rfl ?_
          | refine T_iload_n (pc1 := 27) (pc := 26) k_M_walks_26 rfl rfl ?_
          | refine T_iload (pc1 := 29) (pc := 27) k_M_walks_27 rfl rfl ?_
          | refine T_istore (pc1 := 34) (pc := 32) k_M_walks_32 rfl (Nat.le_of_ble_eq_true rfl) ?_
          | refine T_iload (pc1 := 36) (pc := 34) k_M_walks_34 rfl rfl ?_
          | (with_reducible refine T_if_geN (tgt := 43) (pc1 := 39) (pc := 36) k_M_walks_36 (by decide) (by decide) (by omega) ?_ <;> first | (exfalso; omega) | skip)
          | refine T_if_ge_t (tgt := 43) (pc := 36) k_M_walks_36 rfl (by decide) ?_
          | refine T_if_ge_f (tgt := 43) (pc1 := 39) (pc := 36) k_M_walks_36 rfl rfl (by decide) ?_
          | refine T_if_ge (tgt := 43) (pc1 := 39) (pc := 36) k_M_walks_36 rfl rfl (fun hc => ?_) (fun hc => ?_)
          | refine T_iconst (v := (nI 1)) (pc1 := 40) (pc := 39) k_M_walks_39 rfl (by decide) ?_
          | refine T_goto (tgt := 55) (pc := 40) k_M_walks_40 rfl ?_
          | refine T_iload (pc1 := 45) (pc := 43) k_M_walks_43 rfl rfl ?_
          | refine T_bipush (v := (nI 60)) (pc1 := 47) (pc := 45) k_M_walks_45 rfl (by decide) ?_
          | (with_reducible refine T_icmp_neN (tgt := 54) (pc1 := 50) (pc := 47) k_M_walks_47 (by decide) (by decide) (by omega) (by omega) (fun hc => ?_) (fun hc => ?_) <;> first | (exfalso; omega) | skip)
          | refine T_icmp_ne_t (tgt := 54) (pc := 47) k_M_walks_47 rfl (by decide) ?_
          | refine T_icmp_ne_f (tgt := 54) (pc1 := 50) (pc := 47) k_M_walks_47 rfl rfl (by decide) ?_
          | refine T_icmp_ne (tgt := 54) (pc1 := 50) (pc := 47) k_M_walks_47 rfl rfl (fun hc => ?_) (fun hc => ?_)
          | refine T_iconst (v := (nI 2)) (pc1 := 51) (pc := 50) k_M_walks_50 rfl (by decide) ?_
          | refine T_goto (tgt := 55) (pc := 51) k_M_walks_51 rfl ?_
          | refine T_iconst (v := (nI 0)) (pc1 := 55) (pc := 54) k_M_walks_54 rfl (by decide) ?_
          | refine T_istore (pc1 := 57) (pc := 55) k_M_walks_55 rfl (Nat.le_of_ble_eq_true rfl) ?_
          | refine T_iload (pc1 := 59) (pc := 57) k_M_walks_57 rfl rfl ?_
          | (with_reducible refine T_if_neN (tgt := 177) (pc1 := 62) (pc := 59) k_M_walks_59 (by decide) (by decide) (by omega) (fun hc => ?_) (fun hc => ?_) <;> first | (exfalso; omega) | skip)
          | refine T_if_ne_t (tgt := 177) (pc := 59) k_M_walks_59 rfl (by decide) ?_
          | refine T_if_ne_f (tgt := 177) (pc1 := 62) (pc := 59) k_M_walks_59 rfl rfl (by decide) ?_
          | refine T_if_ne (tgt := 177) (pc1 := 62) (pc := 59) k_M_walks_59 rfl rfl (fun hc => ?_) (fun hc => ?_)
          | refine T_aload_n (pc1 := 63) (pc := 62) k_M_walks_62 rfl rfl ?_
          | refine T_aload_nN (pc1 := 63) (pc := 62) k_M_walks_62 rfl rfl ?_
          | refine T_getR (pc1 := 66) (pc := 63) k_M_walks_63 rfl f_M_9 rfl (by first | exact ga G (by decide) rfl | assumption) (by first | exact gr G (by decide) rfl | assumption) ?_
          | refine T_bipush (v := (nI 96)) (pc1 := 68) (pc := 66) k_M_walks_66 rfl (by decide) ?_
          | refine T_iload (pc1 := 70) (pc := 68) k_M_walks_68 rfl rfl ?_
          | with_reducible refine T_iaddN (pc1 := 71) (pc := 70) k_M_walks_70 (by decide) ?_
          | refine T_iadd (pc1 := 71) (pc := 70) k_M_walks_70 rfl ?_
          | refine T_iload (pc1 := 73) (pc := 71) k_M_walks_71 rfl rfl ?_
          | refine T_iastN (pc1 := 74) (pc := 73) k_M_walks_73 rfl (by first | exact ga G (by decide) rfl | assumption) (by omega) (by omega) ?_
          | refine T_iincN (b := 1) (pc1 := 77) (pc := 74) k_M_walks_74 rfl rfl (by decide) ?_
          | refine T_iinc (v := (nI 1)) (pc1 := 77) (pc := 74) k_M_walks_74 rfl rfl (by decide) ?_
          | refine T_aload_n (pc1 := 78) (pc := 77) k_M_walks_77 rfl rfl ?_
          | refine T_aload_nN (pc1 := 78) (pc := 77) k_M_walks_77 rfl rfl ?_
          | refine T_iload (pc1 := 80) (pc := 78) k_M_walks_78 rfl rfl ?_
          | (refine T_cV (As := [_]) (d1 := 3) (pc1 := 83) (pc := 80) k_M_walks_80 rfl (by decide) (Nat.le_of_ble_eq_true rfl) rfl o_M_isBarred l_M_146 rfl (by first | exact ga G (by decide) rfl | assumption) rfl (c_M_isBarred G (by assumption) (by assumption) (by assumption) (fun hb1 => ?_) (fun hb1 => ?_)) <;> try dsimp only [psh])
          | (with_reducible refine T_if_eqN (tgt := 101) (pc1 := 86) (pc := 83) k_M_walks_83 (by decide) (by decide) (by omega) (fun hc => ?_) (fun hc => ?_) <;> first | (exfalso; omega) | skip)
          | refine T_if_eq_t (tgt := 101) (pc := 83) k_M_walks_83 rfl (by decide) ?_
          | refine T_if_eq_f (tgt := 101) (pc1 := 86) (pc := 83) k_M_walks_83 rfl rfl (by decide) ?_
          | refine T_if_eq (tgt := 101) (pc1 := 86) (pc := 83) k_M_walks_83 rfl rfl (fun hc => ?_) (fun hc => ?_)
          | refine T_iload (pc1 := 88) (pc := 86) k_M_walks_86 rfl rfl ?_
          | refine T_iconst (v := (nI 1)) (pc1 := 89) (pc := 88) k_M_walks_88 rfl (by decide) ?_
          | refine T_iload (pc1 := 91) (pc := 89) k_M_walks_89 rfl rfl ?_
          | refine T_ishl (pc1 := 92) (pc := 91) k_M_walks_91 rfl ?_
          | refine T_ior (pc1 := 93) (pc := 92) k_M_walks_92 rfl ?_
          | refine T_istore (pc1 := 95) (pc := 93) k_M_walks_93 rfl (Nat.le_of_ble_eq_true rfl) ?_
          | refine T_iincN (b := 1) (pc1 := 98) (pc := 95) k_M_walks_95 rfl rfl (by decide) ?_
          | refine T_iinc (v := (nI 1)) (pc1 := 98) (pc := 95) k_M_walks_95 rfl rfl (by decide) ?_
          | refine T_goto (tgt := 177) (pc := 98) k_M_walks_98 rfl ?_
          | refine T_aload_n (pc1 := 102) (pc := 101) k_M_walks_101 rfl rfl ?_
          | refine T_aload_nN (pc1 := 102) (pc := 101) k_M_walks_101 rfl rfl ?_
          | refine T_iload (pc1 := 104) (pc := 102) k_M_walks_102 rfl rfl ?_
          | (refine T_cV (As := [_]) (d1 := 4) (pc1 := 107) (pc := 104) k_M_walks_104 rfl (by decide) (Nat.le_of_ble_eq_true rfl) rfl o_M_takes l_M_143 rfl (by first | exact ga G (by decide) rfl | assumption) rfl (c_M_takes G (by assumption) (by assumption) (by assumption) (fun J hJ => ?_)) <;> try dsimp only [psh])
          | refine T_istore (pc1 := 109) (pc := 107) k_M_walks_107 rfl (Nat.le_of_ble_eq_true rfl) ?_
          | refine T_iload (pc1 := 111) (pc := 109) k_M_walks_109 rfl rfl ?_
          | refine T_iload (pc1 := 113) (pc := 111) k_M_walks_111 rfl rfl ?_
          | with_reducible refine T_iaddN (pc1 := 114) (pc := 113) k_M_walks_113 (by decide) ?_
          | refine T_iadd (pc1 := 114) (pc := 113) k_M_walks_113 rfl ?_
          | refine T_istore (pc1 := 116) (pc := 114) k_M_walks_114 rfl (Nat.le_of_ble_eq_true rfl) ?_
          | refine T_aload_n (pc1 := 117) (pc := 116) k_M_walks_116 rfl rfl ?_
          | refine T_aload_nN (pc1 := 117) (pc := 116) k_M_walks_116 rfl rfl ?_
          | refine T_getR (pc1 := 120) (pc := 117) k_M_walks_117 rfl f_M_9 rfl (by first | exact ga G (by decide) rfl | assumption) (by first | exact gr G (by decide) rfl | assumption) ?_
          | refine T_bipush (v := (nI 12)) (pc1 := 122) (pc := 120) k_M_walks_120 rfl (by decide) ?_
          | refine T_bipush (v := (nI 6)) (pc1 := 124) (pc := 122) k_M_walks_122 rfl (by decide) ?_
          | refine T_iload (pc1 := 126) (pc := 124) k_M_walks_124 rfl rfl ?_
          | with_reducible refine T_imulN (pc1 := 127) (pc := 126) k_M_walks_126 (by decide) ?_
          | refine T_imul (pc1 := 127) (pc := 126) k_M_walks_126 rfl ?_
          | with_reducible refine T_iaddN (pc1 := 128) (pc := 127) k_M_walks_127 (by decide) ?_
          | refine T_iadd (pc1 := 128) (pc := 127) k_M_walks_127 rfl ?_
          | refine T_iconst (v := (nI 5)) (pc1 := 129) (pc := 128) k_M_walks_128 rfl (by decide) ?_
          | with_reducible refine T_iaddN (pc1 := 130) (pc := 129) k_M_walks_129 (by decide) ?_
          | refine T_iadd (pc1 := 130) (pc := 129) k_M_walks_129 rfl ?_
          | refine T_sipush (v := (nI 999)) (pc1 := 133) (pc := 130) k_M_walks_130 rfl (by decide) ?_
          | refine T_iload (pc1 := 135) (pc := 133) k_M_walks_133 rfl rfl ?_
          | refine T_mminV (pc1 := 138) (pc := 135) k_M_walks_135 rfl l_M_82 (by decide) (Nat.le_of_ble_eq_true rfl) (by with_reducible rfl) (by with_reducible rfl) (by omega) (by omega) ?_
          | refine T_mmin (pc1 := 138) (pc := 135) k_M_walks_135 rfl l_M_82 (by decide) (Nat.le_of_ble_eq_true rfl) ?_
          | refine T_iastN (pc1 := 139) (pc := 138) k_M_walks_138 rfl (by first | exact ga G (by decide) rfl | assumption) (by omega) (by omega) ?_
          | refine T_aload_n (pc1 := 140) (pc := 139) k_M_walks_139 rfl rfl ?_
          | refine T_aload_nN (pc1 := 140) (pc := 139) k_M_walks_139 rfl rfl ?_
          | refine T_getR (pc1 := 143) (pc := 140) k_M_walks_140 rfl f_M_9 rfl (by first | exact ga G (by decide) rfl | assumption) (by first | exact gr G (by decide) rfl | assumption) ?_
          | refine T_bipush (v := (nI 12)) (pc1 := 145) (pc := 143) k_M_walks_143 rfl (by decide) ?_
          | refine T_bipush (v := (nI 6)) (pc1 := 147) (pc := 145) k_M_walks_145 rfl (by decide) ?_
          | refine T_iload (pc1 := 149) (pc := 147) k_M_walks_147 rfl rfl ?_
          | with_reducible refine T_imulN (pc1 := 150) (pc := 149) k_M_walks_149 (by decide) ?_
          | refine T_imul (pc1 := 150) (pc := 149) k_M_walks_149 rfl ?_
          | with_reducible refine T_iaddN (pc1 := 151) (pc := 150) k_M_walks_150 (by decide) ?_
          | refine T_iadd (pc1 := 151) (pc := 150) k_M_walks_150 rfl ?_
          | refine T_iconst (v := (nI 4)) (pc1 := 152) (pc := 151) k_M_walks_151 rfl (by decide) ?_
          | with_reducible refine T_iaddN (pc1 := 153) (pc := 152) k_M_walks_152 (by decide) ?_
          | refine T_iadd (pc1 := 153) (pc := 152) k_M_walks_152 rfl ?_
          | refine T_sipush (v := (nI 999)) (pc1 := 156) (pc := 153) k_M_walks_153 rfl (by decide) ?_
          | refine T_aload_n (pc1 := 157) (pc := 156) k_M_walks_156 rfl rfl ?_
          | refine T_aload_nN (pc1 := 157) (pc := 156) k_M_walks_156 rfl rfl ?_
          | refine T_iload (pc1 := 159) (pc := 157) k_M_walks_157 rfl rfl ?_
          | refine T_iconst (v := (nI 4)) (pc1 := 160) (pc := 159) k_M_walks_159 rfl (by decide) ?_
          | (refine T_cV (As := [_, _]) (d1 := 1) (pc1 := 163) (pc := 160) k_M_walks_160 rfl (by decide) (Nat.le_of_ble_eq_true rfl) rfl o_M_bitIs l_M_124 rfl (by first | exact ga G (by decide) rfl | assumption) rfl (c_M_bitN G (by assumption) (by omega) (by omega) (by first | assumption | rfl) ?_) <;> try dsimp only [psh])
          | refine T_iconst (v := (nI 1)) (pc1 := 164) (pc := 163) k_M_walks_163 rfl (by decide) ?_
          | with_reducible refine T_iaddN (pc1 := 165) (pc := 164) k_M_walks_164 (by decide) ?_
          | refine T_iadd (pc1 := 165) (pc := 164) k_M_walks_164 rfl ?_
          | refine T_mminV (pc1 := 168) (pc := 165) k_M_walks_165 rfl l_M_82 (by decide) (Nat.le_of_ble_eq_true rfl) (by with_reducible rfl) (by with_reducible rfl) (by omega) (by omega) ?_
          | refine T_mmin (pc1 := 168) (pc := 165) k_M_walks_165 rfl l_M_82 (by decide) (Nat.le_of_ble_eq_true rfl) ?_
          | refine T_iastN (pc1 := 169) (pc := 168) k_M_walks_168 rfl (by first | exact ga G (by decide) rfl | assumption) (by omega) (by omega) ?_
          | refine T_aload_n (pc1 := 170) (pc := 169) k_M_walks_169 rfl rfl ?_
          | refine T_aload_nN (pc1 := 170) (pc := 169) k_M_walks_169 rfl rfl ?_
          | refine T_iload (pc1 := 172) (pc := 170) k_M_walks_170 rfl rfl ?_
          | refine T_iload_n (pc1 := 173) (pc := 172) k_M_walks_172 rfl rfl ?_
          | refine T_istore_n (pc1 := 177) (pc := 176) k_M_walks_176 rfl (Nat.le_of_ble_eq_true rfl) ?_
          | refine T_goto (tgt := 14) (pc := 177) k_M_walks_177 rfl ?_
          | refine T_getR (pc1 := 184) (pc := 181) k_M_walks_181 rfl f_M_9 rfl (by first | exact ga G (by decide) rfl | assumption) (by first | exact gr G (by decide) rfl | assumption) ?_
          | refine T_bipush (v := (nI 7)) (pc1 := 186) (pc := 184) k_M_walks_184 rfl (by decide) ?_
          | refine T_iconst (v := (nI 1)) (pc1 := 187) (pc := 186) k_M_walks_186 rfl (by decide) ?_
          | refine T_iastN (pc1 := 188) (pc := 187) k_M_walks_187 rfl (by first | exact ga G (by decide) rfl | assumption) (by omega) (by omega) ?_
          | refine T_aload_n (pc1 := 189) (pc := 188) k_M_walks_188 rfl rfl ?_
          | refine T_aload_nN (pc1 := 189) (pc := 188) k_M_walks_188 rfl rfl ?_
          | refine T_getR (pc1 := 192) (pc := 189) k_M_walks_189 rfl f_M_9 rfl (by first | exact ga G (by decide) rfl | assumption) (by first | exact gr G (by decide) rfl | assumption) ?_
          | refine T_bipush (v := (nI 8)) (pc1 := 194) (pc := 192) k_M_walks_192 rfl (by decide) ?_
          | refine T_iload (pc1 := 196) (pc := 194) k_M_walks_194 rfl rfl ?_
          | refine T_iastN (pc1 := 197) (pc := 196) k_M_walks_196 rfl (by first | exact ga G (by decide) rfl | assumption) (by omega) (by omega) ?_
          | refine T_aload_n (pc1 := 198) (pc := 197) k_M_walks_197 rfl rfl ?_
          | refine T_aload_nN (pc1 := 198) (pc := 197) k_M_walks_197 rfl rfl ?_
          | refine T_getR (pc1 := 201) (pc := 198) k_M_walks_198 rfl f_M_9 rfl (by first | exact ga G (by decide) rfl | assumption) (by first | exact gr G (by decide) rfl | assumption) ?_
          | refine T_bipush (v := (nI 9)) (pc1 := 203) (pc := 201) k_M_walks_201 rfl (by decide) ?_
          | refine T_iload (pc1 := 205) (pc := 203) k_M_walks_203 rfl rfl ?_
          | refine T_iastN (pc1 := 206) (pc := 205) k_M_walks_205 rfl (by first | exact ga G (by decide) rfl | assumption) (by omega) (by omega) ?_
          | refine T_aload_n (pc1 := 207) (pc := 206) k_M_walks_206 rfl rfl ?_
          | refine T_aload_nN (pc1 := 207) (pc := 206) k_M_walks_206 rfl rfl ?_
          | refine T_getR (pc1 := 210) (pc := 207) k_M_walks_207 rfl f_M_9 rfl (by first | exact ga G (by decide) rfl | assumption) (by first | exact gr G (by decide) rfl | assumption) ?_
          | refine T_bipush (v := (nI 10)) (pc1 := 212) (pc := 210) k_M_walks_210 rfl (by decide) ?_
          | refine T_iload_n (pc1 := 213) (pc := 212) k_M_walks_212 rfl rfl ?_
          | refine T_iastN (pc1 := 214) (pc := 213) k_M_walks_213 rfl (by first | exact ga G (by decide) rfl | assumption) (by omega) (by omega) ?_
          | refine T_aload_n (pc1 := 215) (pc := 214) k_M_walks_214 rfl rfl ?_
          | refine T_aload_nN (pc1 := 215) (pc := 214) k_M_walks_214 rfl rfl ?_
          | refine T_getR (pc1 := 218) (pc := 215) k_M_walks_215 rfl f_M_9 rfl (by first | exact ga G (by decide) rfl | assumption) (by first | exact gr G (by decide) rfl | assumption) ?_
          | refine T_bipush (v := (nI 11)) (pc1 := 220) (pc := 218) k_M_walks_218 rfl (by decide) ?_
          | refine T_iload (pc1 := 222) (pc := 220) k_M_walks_220 rfl rfl ?_
          | refine T_iastN (pc1 := 223) (pc := 222) k_M_walks_222 rfl (by first | exact ga G (by decide) rfl | assumption) (by omega) (by omega) ?_
          | refine T_aload_n (pc1 := 224) (pc := 223) k_M_walks_223 rfl rfl ?_
          | refine T_aload_nN (pc1 := 224) (pc := 223) k_M_walks_223 rfl rfl ?_
          | refine T_getR (pc1 := 227) (pc := 224) k_M_walks_224 rfl f_M_9 rfl (by first | exact ga G (by decide) rfl | assumption) (by first | exact gr G (by decide) rfl | assumption) ?_
          | refine T_iconst (v := (nI 1)) (pc1 := 228) (pc := 227) k_M_walks_227 rfl (by decide) ?_
          | refine T_dup2 (pc1 := 229) (pc := 228) k_M_walks_228 rfl rfl rfl ?_
          | refine T_ialdN (pc1 := 230) (pc := 229) k_M_walks_229 rfl (by first | exact ga G (by decide) rfl | assumption) (by omega) (by omega) (by first | assumption | (simp (disch := omega) only [pI_eq, pI_row, pI_col, va_up_self, va_up_ne, ne_eq, not_false_eq_true, hJN] <;> rfl) | rfl) ?_
          | refine T_iald (pc1 := 230) (pc := 229) k_M_walks_229 rfl (by first | exact ga G (by decide) rfl | assumption) (by assumption) ?_
          | refine T_iconst (v := (nI 1)) (pc1 := 231) (pc := 230) k_M_walks_230 rfl (by decide) ?_
          | with_reducible refine T_iaddN (pc1 := 232) (pc := 231) k_M_walks_231 (by decide) ?_
          | refine T_iadd (pc1 := 232) (pc := 231) k_M_walks_231 rfl ?_
          | refine T_iastN (pc1 := 233) (pc := 232) k_M_walks_232 rfl (by first | exact ga G (by decide) rfl | assumption) (by omega) (by omega) ?_
          | refine T_aload_n (pc1 := 234) (pc := 233) k_M_walks_233 rfl rfl ?_
          | refine T_aload_nN (pc1 := 234) (pc := 233) k_M_walks_233 rfl rfl ?_
          | refine T_getR (pc1 := 237) (pc := 234) k_M_walks_234 rfl f_M_9 rfl (by first | exact ga G (by decide) rfl | assumption) (by first | exact gr G (by decide) rfl | assumption) ?_
          | refine T_iconst (v := (nI 2)) (pc1 := 238) (pc := 237) k_M_walks_237 rfl (by decide) ?_
          | refine T_dup2 (pc1 := 239) (pc := 238) k_M_walks_238 rfl rfl rfl ?_
          | refine T_ialdN (pc1 := 240) (pc := 239) k_M_walks_239 rfl (by first | exact ga G (by decide) rfl | assumption) (by omega) (by omega) (by first | assumption | (simp (disch := omega) only [pI_eq, pI_row, pI_col, va_up_self, va_up_ne, ne_eq, not_false_eq_true, hJN] <;> rfl) | rfl) ?_
          | refine T_iald (pc1 := 240) (pc := 239) k_M_walks_239 rfl (by first | exact ga G (by decide) rfl | assumption) (by assumption) ?_
          | refine T_iload (pc1 := 242) (pc := 240) k_M_walks_240 rfl rfl ?_
          | with_reducible refine T_iaddN (pc1 := 243) (pc := 242) k_M_walks_242 (by decide) ?_
          | refine T_iadd (pc1 := 243) (pc := 242) k_M_walks_242 rfl ?_
          | refine T_iastN (pc1 := 244) (pc := 243) k_M_walks_243 rfl (by first | exact ga G (by decide) rfl | assumption) (by omega) (by omega) ?_
          | refine T_iload (pc1 := 246) (pc := 244) k_M_walks_244 rfl rfl ?_
          | refine T_retI (pc := 246) k_M_walks_246 rfl (by first | rfl | decide | assumption) ?_)
        exact fin _ _ _ _ _ _ J _ _ hJ hJN hw
      · rw [if_neg hat] at hw
        cases hnx : nxt N n (cst N tn F) at0 to0 with
        | none =>
          rw [hnx] at hw
          repeat' (first
            | refine T_iload_n (pc1 := 1) (pc := 0) k_M_walks_0 rfl rfl ?_
            | refine T_istore_n (pc1 := 2) (pc := 1) k_M_walks_1 rfl (Nat.le_of_ble_eq_true rfl) ?_
            | refine T_iconst (v := (nI 0)) (pc1 := 3) (pc := 2) k_M_walks_2 rfl (by decide) ?_
            | refine T_istore (pc1 := 5) (pc := 3) k_M_walks_3 rfl (Nat.le_of_ble_eq_true rfl) ?_
            | refine T_iconst (v := (nI 0)) (pc1 := 6) (pc := 5) k_M_walks_5 rfl (by decide) ?_
            | refine T_istore (pc1 := 8) (pc := 6) k_M_walks_6 rfl (Nat.le_of_ble_eq_true rfl) ?_
            | refine T_iconst (v := (nI 0)) (pc1 := 9) (pc := 8) k_M_walks_8 rfl (by decide) ?_
            | refine T_istore (pc1 := 11) (pc := 9) k_M_walks_9 rfl (Nat.le_of_ble_eq_true rfl) ?_
            | refine T_iconst (v := (nI 0)) (pc1 := 12) (pc := 11) k_M_walks_11 rfl (by decide) ?_
            | refine T_istore (pc1 := 14) (pc := 12) k_M_walks_12 rfl (Nat.le_of_ble_eq_true rfl) ?_
            | refine T_iload_n (pc1 := 15) (pc := 14) k_M_walks_14 rfl rfl ?_
            | refine T_iload_n (pc1 := 16) (pc := 15) k_M_walks_15 rfl rfl ?_
            | (with_reducible refine T_icmp_eqN (tgt := 180) (pc1 := 19) (pc := 16) k_M_walks_16 (by decide) (by decide) (by omega) (by omega) (fun hc => ?_) (fun hc => ?_) <;> first | (exfalso; omega) | skip)
            | refine T_icmp_eq_t (tgt := 180) (pc := 16) k_M_walks_16 rfl (by decide) ?_
            | refine T_icmp_eq_f (tgt := 180) (pc1 := 19) (pc := 16) k_M_walks_16 rfl rfl (by decide) ?_
            | refine T_icmp_eq (tgt := 180) (pc1 := 19) (pc := 16) k_M_walks_16 rfl rfl (fun hc => ?_) (fun hc => ?_)
            | refine T_iload (pc1 := 21) (pc := 19) k_M_walks_19 rfl rfl ?_
            | (with_reducible refine T_if_neN (tgt := 180) (pc1 := 24) (pc := 21) k_M_walks_21 (by decide) (by decide) (by omega) (fun hc => ?_) (fun hc => ?_) <;> first | (exfalso; omega) | skip)
            | refine T_if_ne_t (tgt := 180) (pc := 21) k_M_walks_21 rfl (by decide) ?_
            | refine T_if_ne_f (tgt := 180) (pc1 := 24) (pc := 21) k_M_walks_21 rfl rfl (by decide) ?_
            | refine T_if_ne (tgt := 180) (pc1 := 24) (pc := 21) k_M_walks_21 rfl rfl (fun hc => ?_) (fun hc => ?_)
            | refine T_aload_n (pc1 := 25) (pc := 24) k_M_walks_24 rfl rfl ?_
            | refine T_aload_nN (pc1 := 25) (pc := 24) k_M_walks_24 rfl rfl ?_
            | refine T_iload_n (pc1 := 26) (pc := 25) k_M_walks_25 rfl rfl ?_
            | refine T_iload_n (pc1 := 27) (pc := 26) k_M_walks_26 rfl rfl ?_
            | refine T_iload (pc1 := 29) (pc := 27) k_M_walks_27 rfl rfl ?_
            | (refine T_cV (As := [_, _, _]) (d1 := 4) (pc1 := 32) (pc := 29) k_M_walks_29 rfl (by decide) (Nat.le_of_ble_eq_true rfl) rfl o_M_firstBit l_M_171 rfl (by first | exact ga G (by decide) rfl | assumption) rfl (c_M_firstBit G hJN ok hF ha ht (fun J1 hJ1 => ?_)) <;> try dsimp only [psh])
            | refine T_iload (pc1 := 36) (pc := 34) k_M_walks_34 rfl rfl ?_
            | (with_reducible refine T_if_geN (tgt := 43) (pc1 := 39) (pc := 36) k_M_walks_36 (by decide) (by decide) (by omega) ?_ <;> first | (exfalso; omega) | skip)
            | refine T_if_ge_t (tgt := 43) (pc := 36) k_M_walks_36 rfl (by decide) ?_
            | refine T_if_ge_f (tgt := 43) (pc1 := 39) (pc := 36) k_M_walks_36 rfl rfl (by decide) ?_
            | refine T_if_ge (tgt := 43) (pc1 := 39) (pc := 36) k_M_walks_36 rfl rfl (fun hc => ?_) (fun hc => ?_)
            | refine T_iconst (v := (nI 1)) (pc1 := 40) (pc := 39) k_M_walks_39 rfl (by decide) ?_
            | refine T_goto (tgt := 55) (pc := 40) k_M_walks_40 rfl ?_
            | refine T_iload (pc1 := 45) (pc := 43) k_M_walks_43 rfl rfl ?_
            | refine T_bipush (v := (nI 60)) (pc1 := 47) (pc := 45) k_M_walks_45 rfl (by decide) ?_
            | (with_reducible refine T_icmp_neN (tgt := 54) (pc1 := 50) (pc := 47) k_M_walks_47 (by decide) (by decide) (by omega) (by omega) (fun hc => ?_) (fun hc => ?_) <;> first | (exfalso; omega) | skip)
            | refine T_icmp_ne_t (tgt := 54) (pc := 47) k_M_walks_47 rfl (by decide) ?_
            | refine T_icmp_ne_f (tgt := 54) (pc1 := 50) (pc := 47) k_M_walks_47 rfl rfl (by decide) ?_
            | refine T_icmp_ne (tgt := 54) (pc1 := 50) (pc := 47) k_M_walks_47 rfl rfl (fun hc => ?_) (fun hc => ?_)
            | refine T_iconst (v := (nI 2)) (pc1 := 51) (pc := 50) k_M_walks_50 rfl (by decide) ?_
            | refine T_goto (tgt := 55) (pc := 51) k_M_walks_51 rfl ?_
            | refine T_iconst (v := (nI 0)) (pc1 := 55) (pc := 54) k_M_walks_54 rfl (by decide) ?_
            | refine T_istore (pc1 := 57) (pc := 55) k_M_walks_55 rfl (Nat.le_of_ble_eq_true rfl) ?_
            | refine T_iload (pc1 := 59) (pc := 57) k_M_walks_57 rfl rfl ?_
            | (with_reducible refine T_if_neN (tgt := 177) (pc1 := 62) (pc := 59) k_M_walks_59 (by decide) (by decide) (by omega) (fun hc => ?_) (fun hc => ?_) <;> first | (exfalso; omega) | skip)
            | refine T_if_ne_t (tgt := 177) (pc := 59) k_M_walks_59 rfl (by decide) ?_
            | refine T_if_ne_f (tgt := 177) (pc1 := 62) (pc := 59) k_M_walks_59 rfl rfl (by decide) ?_
            | refine T_if_ne (tgt := 177) (pc1 := 62) (pc := 59) k_M_walks_59 rfl rfl (fun hc => ?_) (fun hc => ?_)
            | refine T_aload_n (pc1 := 63) (pc := 62) k_M_walks_62 rfl rfl ?_
            | refine T_aload_nN (pc1 := 63) (pc := 62) k_M_walks_62 rfl rfl ?_
            | refine T_getR (pc1 := 66) (pc := 63) k_M_walks_63 rfl f_M_9 rfl (by first | exact ga G (by decide) rfl | assumption) (by first | exact gr G (by decide) rfl | assumption) ?_
            | refine T_bipush (v := (nI 96)) (pc1 := 68) (pc := 66) k_M_walks_66 rfl (by decide) ?_
            | refine T_iload (pc1 := 70) (pc := 68) k_M_walks_68 rfl rfl ?_
            | with_reducible refine T_iaddN (pc1 := 71) (pc := 70) k_M_walks_70 (by decide) ?_
            | refine T_iadd (pc1 := 71) (pc := 70) k_M_walks_70 rfl ?_
            | refine T_iload (pc1 := 73) (pc := 71) k_M_walks_71 rfl rfl ?_
            | refine T_iastN (pc1 := 74) (pc := 73) k_M_walks_73 rfl (by first | exact ga G (by decide) rfl | assumption) (by omega) (by omega) ?_
            | refine T_iincN (b := 1) (pc1 := 77) (pc := 74) k_M_walks_74 rfl rfl (by decide) ?_
            | refine T_iinc (v := (nI 1)) (pc1 := 77) (pc := 74) k_M_walks_74 rfl rfl (by decide) ?_
            | refine T_aload_n (pc1 := 78) (pc := 77) k_M_walks_77 rfl rfl ?_
            | refine T_aload_nN (pc1 := 78) (pc := 77) k_M_walks_77 rfl rfl ?_
            | refine T_iload (pc1 := 80) (pc := 78) k_M_walks_78 rfl rfl ?_
            | (refine T_cV (As := [_]) (d1 := 3) (pc1 := 83) (pc := 80) k_M_walks_80 rfl (by decide) (Nat.le_of_ble_eq_true rfl) rfl o_M_isBarred l_M_146 rfl (by first | exact ga G (by decide) rfl | assumption) rfl (c_M_isBarred G (by assumption) (by assumption) (by assumption) (fun hb1 => ?_) (fun hb1 => ?_)) <;> try dsimp only [psh])
            | (with_reducible refine T_if_eqN (tgt := 101) (pc1 := 86) (pc := 83) k_M_walks_83 (by decide) (by decide) (by omega) (fun hc => ?_) (fun hc => ?_) <;> first | (exfalso; omega) | skip)
            | refine T_if_eq_t (tgt := 101) (pc := 83) k_M_walks_83 rfl (by decide) ?_
            | refine T_if_eq_f (tgt := 101) (pc1 := 86) (pc := 83) k_M_walks_83 rfl rfl (by decide) ?_
            | refine T_if_eq (tgt := 101) (pc1 := 86) (pc := 83) k_M_walks_83 rfl rfl (fun hc => ?_) (fun hc => ?_)
            | refine T_iload (pc1 := 88) (pc := 86) k_M_walks_86 rfl rfl ?_
            | refine T_iconst (v := (nI 1)) (pc1 := 89) (pc := 88) k_M_walks_88 rfl (by decide) ?_
            | refine T_iload (pc1 := 91) (pc := 89) k_M_walks_89 rfl rfl ?_
            | refine T_ishl (pc1 := 92) (pc := 91) k_M_walks_91 rfl ?_
            | refine T_ior (pc1 := 93) (pc := 92) k_M_walks_92 rfl ?_
            | refine T_istore (pc1 := 95) (pc := 93) k_M_walks_93 rfl (Nat.le_of_ble_eq_true rfl) ?_
            | refine T_iincN (b := 1) (pc1 := 98) (pc := 95) k_M_walks_95 rfl rfl (by decide) ?_
            | refine T_iinc (v := (nI 1)) (pc1 := 98) (pc := 95) k_M_walks_95 rfl rfl (by decide) ?_
            | refine T_goto (tgt := 177) (pc := 98) k_M_walks_98 rfl ?_
            | refine T_aload_n (pc1 := 102) (pc := 101) k_M_walks_101 rfl rfl ?_
            | refine T_aload_nN (pc1 := 102) (pc := 101) k_M_walks_101 rfl rfl ?_
            | refine T_iload (pc1 := 104) (pc := 102) k_M_walks_102 rfl rfl ?_
            | (refine T_cV (As := [_]) (d1 := 4) (pc1 := 107) (pc := 104) k_M_walks_104 rfl (by decide) (Nat.le_of_ble_eq_true rfl) rfl o_M_takes l_M_143 rfl (by first | exact ga G (by decide) rfl | assumption) rfl (c_M_takes G (by assumption) (by assumption) (by assumption) (fun J hJ => ?_)) <;> try dsimp only [psh])
            | refine T_istore (pc1 := 109) (pc := 107) k_M_walks_107 rfl (Nat.le_of_ble_eq_true rfl) ?_
            | refine T_iload (pc1 := 111) (pc := 109) k_M_walks_109 rfl rfl ?_
            | refine T_iload (pc1 := 113) (pc := 111) k_M_walks_111 rfl rfl ?_
            | with_reducible refine T_iaddN (pc1 := 114) (pc := 113) k_M_walks_113 (by decide) ?_
            | refine T_iadd (pc1 := 114) (pc := 113) k_M_walks_113 rfl ?_
            | refine T_istore (pc1 := 116) (pc := 114) k_M_walks_114 rfl (Nat.le_of_ble_eq_true rfl) ?_
            | refine T_aload_n (pc1 := 117) (pc := 116) k_M_walks_116 rfl rfl ?_
            | refine T_aload_nN (pc1 := 117) (pc := 116) k_M_walks_116 rfl rfl ?_
            | refine T_getR (pc1 := 120) (pc := 117) k_M_walks_117 rfl f_M_9 rfl (by first | exact ga G (by decide) rfl | assumption) (by first | exact gr G (by decide) rfl | assumption) ?_
            | refine T_bipush (v := (nI 12)) (pc1 := 122) (pc := 120) k_M_walks_120 rfl (by decide) ?_
            | refine T_bipush (v := (nI 6)) (pc1 := 124) (pc := 122) k_M_walks_122 rfl (by decide) ?_
            | refine T_iload (pc1 := 126) (pc := 124) k_M_walks_124 rfl rfl ?_
            | with_reducible refine T_imulN (pc1 := 127) (pc := 126) k_M_walks_126 (by decide) ?_
            | refine T_imul (pc1 := 127) (pc := 126) k_M_walks_126 rfl ?_
            | with_reducible refine T_iaddN (pc1 := 128) (pc := 127) k_M_walks_127 (by decide) ?_
            | refine T_iadd (pc1 := 128) (pc := 127) k_M_walks_127 rfl ?_
            | refine T_iconst (v := (nI 5)) (pc1 := 129) (pc := 128) k_M_walks_128 rfl (by decide) ?_
            | with_reducible refine T_iaddN (pc1 := 130) (pc := 129) k_M_walks_129 (by decide) ?_
            | refine T_iadd (pc1 := 130) (pc := 129) k_M_walks_129 rfl ?_
            | refine T_sipush (v := (nI 999)) (pc1 := 133) (pc := 130) k_M_walks_130 rfl (by decide) ?_
            | refine T_iload (pc1 := 135) (pc := 133) k_M_walks_133 rfl rfl ?_
            | refine T_mminV (pc1 := 138) (pc := 135) k_M_walks_135 rfl l_M_82 (by decide) (Nat.le_of_ble_eq_true rfl) (by with_reducible rfl) (by with_reducible rfl) (by omega) (by omega) ?_
            | refine T_mmin (pc1 := 138) (pc := 135) k_M_walks_135 rfl l_M_82 (by decide) (Nat.le_of_ble_eq_true rfl) ?_
            | refine T_iastN (pc1 := 139) (pc := 138) k_M_walks_138 rfl (by first | exact ga G (by decide) rfl | assumption) (by omega) (by omega) ?_
            | refine T_aload_n (pc1 := 140) (pc := 139) k_M_walks_139 rfl rfl ?_
            | refine T_aload_nN (pc1 := 140) (pc := 139) k_M_walks_139 rfl rfl ?_
            | refine T_getR (pc1 := 143) (pc := 140) k_M_walks_140 rfl f_M_9 rfl (by first | exact ga G (by decide) rfl | assumption) (by first | exact gr G (by decide) rfl | assumption) ?_
            | refine T_bipush (v := (nI 12)) (pc1 := 145) (pc := 143) k_M_walks_143 rfl (by decide) ?_
            | refine T_bipush (v := (nI 6)) (pc1 := 147) (pc := 145) k_M_walks_145 rfl (by decide) ?_
            | refine T_iload (pc1 := 149) (pc := 147) k_M_walks_147 rfl rfl ?_
            | with_reducible refine T_imulN (pc1 := 150) (pc := 149) k_M_walks_149 (by decide) ?_
            | refine T_imul (pc1 := 150) (pc := 149) k_M_walks_149 rfl ?_
            | with_reducible refine T_iaddN (pc1 := 151) (pc := 150) k_M_walks_150 (by decide) ?_
            | refine T_iadd (pc1 := 151) (pc := 150) k_M_walks_150 rfl ?_
            | refine T_iconst (v := (nI 4)) (pc1 := 152) (pc := 151) k_M_walks_151 rfl (by decide) ?_
            | with_reducible refine T_iaddN (pc1 := 153) (pc := 152) k_M_walks_152 (by decide) ?_
            | refine T_iadd (pc1 := 153) (pc := 152) k_M_walks_152 rfl ?_
            | refine T_sipush (v := (nI 999)) (pc1 := 156) (pc := 153) k_M_walks_153 rfl (by decide) ?_
            | refine T_aload_n (pc1 := 157) (pc := 156) k_M_walks_156 rfl rfl ?_
            | refine T_aload_nN (pc1 := 157) (pc := 156) k_M_walks_156 rfl rfl ?_
            | refine T_iload (pc1 := 159) (pc := 157) k_M_walks_157 rfl rfl ?_
            | refine T_iconst (v := (nI 4)) (pc1 := 160) (pc := 159) k_M_walks_159 rfl (by decide) ?_
            | (refine T_cV (As := [_, _]) (d1 := 1) (pc1 := 163) (pc := 160) k_M_walks_160 rfl (by decide) (Nat.le_of_ble_eq_true rfl) rfl o_M_bitIs l_M_124 rfl (by first | exact ga G (by decide) rfl | assumption) rfl (c_M_bitN G (by assumption) (by omega) (by omega) (by first | assumption | rfl) ?_) <;> try dsimp only [psh])
            | refine T_iconst (v := (nI 1)) (pc1 := 164) (pc := 163) k_M_walks_163 rfl (by decide) ?_
            | with_reducible refine T_iaddN (pc1 := 165) (pc := 164) k_M_walks_164 (by decide) ?_
            | refine T_iadd (pc1 := 165) (pc := 164) k_M_walks_164 rfl ?_
            | refine T_mminV (pc1 := 168) (pc := 165) k_M_walks_165 rfl l_M_82 (by decide) (Nat.le_of_ble_eq_true rfl) (by with_reducible rfl) (by with_reducible rfl) (by omega) (by omega) ?_
            | refine T_mmin (pc1 := 168) (pc := 165) k_M_walks_165 rfl l_M_82 (by decide) (Nat.le_of_ble_eq_true rfl) ?_
            | refine T_iastN (pc1 := 169) (pc := 168) k_M_walks_168 rfl (by first | exact ga G (by decide) rfl | assumption) (by omega) (by omega) ?_
            | refine T_aload_n (pc1 := 170) (pc := 169) k_M_walks_169 rfl rfl ?_
            | refine T_aload_nN (pc1 := 170) (pc := 169) k_M_walks_169 rfl rfl ?_
            | refine T_iload (pc1 := 172) (pc := 170) k_M_walks_170 rfl rfl ?_
            | refine T_iload_n (pc1 := 173) (pc := 172) k_M_walks_172 rfl rfl ?_
            | refine T_istore_n (pc1 := 177) (pc := 176) k_M_walks_176 rfl (Nat.le_of_ble_eq_true rfl) ?_
            | refine T_goto (tgt := 14) (pc := 177) k_M_walks_177 rfl ?_
            | refine T_getR (pc1 := 184) (pc := 181) k_M_walks_181 rfl f_M_9 rfl (by first | exact ga G (by decide) rfl | assumption) (by first | exact gr G (by decide) rfl | assumption) ?_
            | refine T_bipush (v := (nI 7)) (pc1 := 186) (pc := 184) k_M_walks_184 rfl (by decide) ?_
            | refine T_iconst (v := (nI 1)) (pc1 := 187) (pc := 186) k_M_walks_186 rfl (by decide) ?_
            | refine T_iastN (pc1 := 188) (pc := 187) k_M_walks_187 rfl (by first | exact ga G (by decide) rfl | assumption) (by omega) (by omega) ?_
            | refine T_aload_n (pc1 := 189) (pc := 188) k_M_walks_188 rfl rfl ?_
            | refine T_aload_nN (pc1 := 189) (pc := 188) k_M_walks_188 rfl rfl ?_
            | refine T_getR (pc1 := 192) (pc := 189) k_M_walks_189 rfl f_M_9 rfl (by first | exact ga G (by decide) rfl | assumption) (by first | exact gr G (by decide) rfl | assumption) ?_
            | refine T_bipush (v := (nI 8)) (pc1 := 194) (pc := 192) k_M_walks_192 rfl (by decide) ?_
            | refine T_iload (pc1 := 196) (pc := 194) k_M_walks_194 rfl rfl ?_
            | refine T_iastN (pc1 := 197) (pc := 196) k_M_walks_196 rfl (by first | exact ga G (by decide) rfl | assumption) (by omega) (by omega) ?_
            | refine T_aload_n (pc1 := 198) (pc := 197) k_M_walks_197 rfl rfl ?_
            | refine T_aload_nN (pc1 := 198) (pc := 197) k_M_walks_197 rfl rfl ?_
            | refine T_getR (pc1 := 201) (pc := 198) k_M_walks_198 rfl f_M_9 rfl (by first | exact ga G (by decide) rfl | assumption) (by first | exact gr G (by decide) rfl | assumption) ?_
            | refine T_bipush (v := (nI 9)) (pc1 := 203) (pc := 201) k_M_walks_201 rfl (by decide) ?_
            | refine T_iload (pc1 := 205) (pc := 203) k_M_walks_203 rfl rfl ?_
            | refine T_iastN (pc1 := 206) (pc := 205) k_M_walks_205 rfl (by first | exact ga G (by decide) rfl | assumption) (by omega) (by omega) ?_
            | refine T_aload_n (pc1 := 207) (pc := 206) k_M_walks_206 rfl rfl ?_
            | refine T_aload_nN (pc1 := 207) (pc := 206) k_M_walks_206 rfl rfl ?_
            | refine T_getR (pc1 := 210) (pc := 207) k_M_walks_207 rfl f_M_9 rfl (by first | exact ga G (by decide) rfl | assumption) (by first | exact gr G (by decide) rfl | assumption) ?_
            | refine T_bipush (v := (nI 10)) (pc1 := 212) (pc := 210) k_M_walks_210 rfl (by decide) ?_
            | refine T_iload_n (pc1 := 213) (pc := 212) k_M_walks_212 rfl rfl ?_
            | refine T_iastN (pc1 := 214) (pc := 213) k_M_walks_213 rfl (by first | exact ga G (by decide) rfl | assumption) (by omega) (by omega) ?_
            | refine T_aload_n (pc1 := 215) (pc := 214) k_M_walks_214 rfl rfl ?_
            | refine T_aload_nN (pc1 := 215) (pc := 214) k_M_walks_214 rfl rfl ?_
            | refine T_getR (pc1 := 218) (pc := 215) k_M_walks_215 rfl f_M_9 rfl (by first | exact ga G (by decide) rfl | assumption) (by first | exact gr G (by decide) rfl | assumption) ?_
            | refine T_bipush (v := (nI 11)) (pc1 := 220) (pc := 218) k_M_walks_218 rfl (by decide) ?_
            | refine T_iload (pc1 := 222) (pc := 220) k_M_walks_220 rfl rfl ?_
            | refine T_iastN (pc1 := 223) (pc := 222) k_M_walks_222 rfl (by first | exact ga G (by decide) rfl | assumption) (by omega) (by omega) ?_
            | refine T_aload_n (pc1 := 224) (pc := 223) k_M_walks_223 rfl rfl ?_
            | refine T_aload_nN (pc1 := 224) (pc := 223) k_M_walks_223 rfl rfl ?_
            | refine T_getR (pc1 := 227) (pc := 224) k_M_walks_224 rfl f_M_9 rfl (by first | exact ga G (by decide) rfl | assumption) (by first | exact gr G (by decide) rfl | assumption) ?_
            | refine T_iconst (v := (nI 1)) (pc1 := 228) (pc := 227) k_M_walks_227 rfl (by decide) ?_
            | refine T_dup2 (pc1 := 229) (pc := 228) k_M_walks_228 rfl rfl rfl ?_
            | refine T_ialdN (pc1 := 230) (pc := 229) k_M_walks_229 rfl (by first | exact ga G (by decide) rfl | assumption) (by omega) (by omega) (by first | assumption | (simp (disch := omega) only [pI_eq, pI_row, pI_col, va_up_self, va_up_ne, ne_eq, not_false_eq_true, hJN] <;> rfl) | rfl) ?_
            | refine T_iald (pc1 := 230) (pc := 229) k_M_walks_229 rfl (by first | exact ga G (by decide) rfl | assumption) (by assumption) ?_
            | refine T_iconst (v := (nI 1)) (pc1 := 231) (pc := 230) k_M_walks_230 rfl (by decide) ?_
            | with_reducible refine T_iaddN (pc1 := 232) (pc := 231) k_M_walks_231 (by decide) ?_
            | refine T_iadd (pc1 := 232) (pc := 231) k_M_walks_231 rfl ?_
            | refine T_iastN (pc1 := 233) (pc := 232) k_M_walks_232 rfl (by first | exact ga G (by decide) rfl | assumption) (by omega) (by omega) ?_
            | refine T_aload_n (pc1 := 234) (pc := 233) k_M_walks_233 rfl rfl ?_
            | refine T_aload_nN (pc1 := 234) (pc := 233) k_M_walks_233 rfl rfl ?_
            | refine T_getR (pc1 := 237) (pc := 234) k_M_walks_234 rfl f_M_9 rfl (by first | exact ga G (by decide) rfl | assumption) (by first | exact gr G (by decide) rfl | assumption) ?_
            | refine T_iconst (v := (nI 2)) (pc1 := 238) (pc := 237) k_M_walks_237 rfl (by decide) ?_
            | refine T_dup2 (pc1 := 239) (pc := 238) k_M_walks_238 rfl rfl rfl ?_
            | refine T_ialdN (pc1 := 240) (pc := 239) k_M_walks_239 rfl (by first | exact ga G (by decide) rfl | assumption) (by omega) (by omega) (by first | assumption | (simp (disch := omega) only [pI_eq, pI_row, pI_col, va_up_self, va_up_ne, ne_eq, not_false_eq_true, hJN] <;> rfl) | rfl) ?_
            | refine T_iald (pc1 := 240) (pc := 239) k_M_walks_239 rfl (by first | exact ga G (by decide) rfl | assumption) (by assumption) ?_
            | refine T_iload (pc1 := 242) (pc := 240) k_M_walks_240 rfl rfl ?_
            | with_reducible refine T_iaddN (pc1 := 243) (pc := 242) k_M_walks_242 (by decide) ?_
            | refine T_iadd (pc1 := 243) (pc := 242) k_M_walks_242 rfl ?_
            | refine T_iastN (pc1 := 244) (pc := 243) k_M_walks_243 rfl (by first | exact ga G (by decide) rfl | assumption) (by omega) (by omega) ?_
            | refine T_iload (pc1 := 246) (pc := 244) k_M_walks_244 rfl rfl ?_
            | refine T_retI (pc := 246) k_M_walks_246 rfl (by first | rfl | decide | assumption) ?_)
          rw [hnx, show opt1 none = -1 from rfl]
          repeat' (first
            | refine T_iload_n (pc1 := 1) (pc := 0) k_M_walks_0 rfl rfl ?_
            | refine T_istore_n (pc1 := 2) (pc := 1) k_M_walks_1 rfl (Nat.le_of_ble_eq_true rfl) ?_
            | refine T_iconst (v := (nI 0)) (pc1 := 3) (pc := 2) k_M_walks_2 rfl (by decide) ?_
            | refine T_istore (pc1 := 5) (pc := 3) k_M_walks_3 rfl (Nat.le_of_ble_eq_true rfl) ?_
            | refine T_iconst (v := (nI 0)) (pc1 := 6) (pc := 5) k_M_walks_5 rfl (by decide) ?_
            | refine T_istore (pc1 := 8) (pc := 6) k_M_walks_6 rfl (Nat.le_of_ble_eq_true rfl) ?_
            | refine T_iconst (v := (nI 0)) (pc1 := 9) (pc := 8) k_M_walks_8 rfl (by decide) ?_
            | refine T_istore (pc1 := 11) (pc := 9) k_M_walks_9 rfl (Nat.le_of_ble_eq_true rfl) ?_
            | refine T_iconst (v := (nI 0)) (pc1 := 12) (pc := 11) k_M_walks_11 rfl (by decide) ?_
            | refine T_istore (pc1 := 14) (pc := 12) k_M_walks_12 rfl (Nat.le_of_ble_eq_true rfl) ?_
            | refine T_iload_n (pc1 := 15) (pc := 14) k_M_walks_14 rfl rfl ?_
            | refine T_iload_n (pc1 := 16) (pc := 15) k_M_walks_15 rfl rfl ?_
            | (with_reducible refine T_icmp_eqN (tgt := 180) (pc1 := 19) (pc := 16) k_M_walks_16 (by decide) (by decide) (by omega) (by omega) (fun hc => ?_) (fun hc => ?_) <;> first | (exfalso; omega) | skip)
            | refine T_icmp_eq_t (tgt := 180) (pc := 16) k_M_walks_16 rfl (by decide) ?_
            | refine T_icmp_eq_f (tgt := 180) (pc1 := 19) (pc := 16) k_M_walks_16 rfl rfl (by decide) ?_
            | refine T_icmp_eq (tgt := 180) (pc1 := 19) (pc := 16) k_M_walks_16 rfl rfl (fun hc => ?_) (fun hc => ?_)
            | refine T_iload (pc1 := 21) (pc := 19) k_M_walks_19 rfl rfl ?_
            | (with_reducible refine T_if_neN (tgt := 180) (pc1 := 24) (pc := 21) k_M_walks_21 (by decide) (by decide) (by omega) (fun hc => ?_) (fun hc => ?_) <;> first | (exfalso; omega) | skip)
            | refine T_if_ne_t (tgt := 180) (pc := 21) k_M_walks_21 rfl (by decide) ?_
            | refine T_if_ne_f (tgt := 180) (pc1 := 24) (pc := 21) k_M_walks_21 rfl rfl (by decide) ?_
            | refine T_if_ne (tgt := 180) (pc1 := 24) (pc := 21) k_M_walks_21 rfl rfl (fun hc => ?_) (fun hc => ?_)
            | refine T_aload_n (pc1 := 25) (pc := 24) k_M_walks_24 rfl rfl ?_
            | refine T_aload_nN (pc1 := 25) (pc := 24) k_M_walks_24 rfl rfl ?_
            | refine T_iload_n (pc1 := 26) (pc := 25) k_M_walks_25 rfl rfl ?_
            | refine T_iload_n (pc1 := 27) (pc := 26) k_M_walks_26 rfl rfl ?_
            | refine T_iload (pc1 := 29) (pc := 27) k_M_walks_27 rfl rfl ?_
            | (refine T_cV (As := [_, _, _]) (d1 := 4) (pc1 := 32) (pc := 29) k_M_walks_29 rfl (by decide) (Nat.le_of_ble_eq_true rfl) rfl o_M_firstBit l_M_171 rfl (by first | exact ga G (by decide) rfl | assumption) rfl (c_M_firstBit G hJN ok hF ha ht (fun J1 hJ1 => ?_)) <;> try dsimp only [psh])
            | refine T_istore (pc1 := 34) (pc := 32) k_M_walks_32 rfl (Nat.le_of_ble_eq_true rfl) ?_
            | refine T_iload (pc1 := 36) (pc := 34) k_M_walks_34 rfl rfl ?_
            | (with_reducible refine T_if_geN (tgt := 43) (pc1 := 39) (pc := 36) k_M_walks_36 (by decide) (by decide) (by omega) ?_ <;> first | (exfalso; omega) | skip)
            | refine T_if_ge_t (tgt := 43) (pc := 36) k_M_walks_36 rfl (by decide) ?_
            | refine T_if_ge_f (tgt := 43) (pc1 := 39) (pc := 36) k_M_walks_36 rfl rfl (by decide) ?_
            | refine T_if_ge (tgt := 43) (pc1 := 39) (pc := 36) k_M_walks_36 rfl rfl (fun hc => ?_) (fun hc => ?_)
            | refine T_iconst (v := (nI 1)) (pc1 := 40) (pc := 39) k_M_walks_39 rfl (by decide) ?_
            | refine T_goto (tgt := 55) (pc := 40) k_M_walks_40 rfl ?_
            | refine T_iload (pc1 := 45) (pc := 43) k_M_walks_43 rfl rfl ?_
            | refine T_bipush (v := (nI 60)) (pc1 := 47) (pc := 45) k_M_walks_45 rfl (by decide) ?_
            | (with_reducible refine T_icmp_neN (tgt := 54) (pc1 := 50) (pc := 47) k_M_walks_47 (by decide) (by decide) (by omega) (by omega) (fun hc => ?_) (fun hc => ?_) <;> first | (exfalso; omega) | skip)
            | refine T_icmp_ne_t (tgt := 54) (pc := 47) k_M_walks_47 rfl (by decide) ?_
            | refine T_icmp_ne_f (tgt := 54) (pc1 := 50) (pc := 47) k_M_walks_47 rfl rfl (by decide) ?_
            | refine T_icmp_ne (tgt := 54) (pc1 := 50) (pc := 47) k_M_walks_47 rfl rfl (fun hc => ?_) (fun hc => ?_)
            | refine T_iconst (v := (nI 2)) (pc1 := 51) (pc := 50) k_M_walks_50 rfl (by decide) ?_
            | refine T_goto (tgt := 55) (pc := 51) k_M_walks_51 rfl ?_
            | refine T_iconst (v := (nI 0)) (pc1 := 55) (pc := 54) k_M_walks_54 rfl (by decide) ?_
            | refine T_istore (pc1 := 57) (pc := 55) k_M_walks_55 rfl (Nat.le_of_ble_eq_true rfl) ?_
            | refine T_iload (pc1 := 59) (pc := 57) k_M_walks_57 rfl rfl ?_
            | (with_reducible refine T_if_neN (tgt := 177) (pc1 := 62) (pc := 59) k_M_walks_59 (by decide) (by decide) (by omega) (fun hc => ?_) (fun hc => ?_) <;> first | (exfalso; omega) | skip)
            | refine T_if_ne_t (tgt := 177) (pc := 59) k_M_walks_59 rfl (by decide) ?_
            | refine T_if_ne_f (tgt := 177) (pc1 := 62) (pc := 59) k_M_walks_59 rfl rfl (by decide) ?_
            | refine T_if_ne (tgt := 177) (pc1 := 62) (pc := 59) k_M_walks_59 rfl rfl (fun hc => ?_) (fun hc => ?_)
            | refine T_aload_n (pc1 := 63) (pc := 62) k_M_walks_62 rfl rfl ?_
            | refine T_aload_nN (pc1 := 63) (pc := 62) k_M_walks_62 rfl rfl ?_
            | refine T_getR (pc1 := 66) (pc := 63) k_M_walks_63 rfl f_M_9 rfl (by first | exact ga G (by decide) rfl | assumption) (by first | exact gr G (by decide) rfl | assumption) ?_
            | refine T_bipush (v := (nI 96)) (pc1 := 68) (pc := 66) k_M_walks_66 rfl (by decide) ?_
            | refine T_iload (pc1 := 70) (pc := 68) k_M_walks_68 rfl rfl ?_
            | with_reducible refine T_iaddN (pc1 := 71) (pc := 70) k_M_walks_70 (by decide) ?_
            | refine T_iadd (pc1 := 71) (pc := 70) k_M_walks_70 rfl ?_
            | refine T_iload (pc1 := 73) (pc := 71) k_M_walks_71 rfl rfl ?_
            | refine T_iastN (pc1 := 74) (pc := 73) k_M_walks_73 rfl (by first | exact ga G (by decide) rfl | assumption) (by omega) (by omega) ?_
            | refine T_iincN (b := 1) (pc1 := 77) (pc := 74) k_M_walks_74 rfl rfl (by decide) ?_
            | refine T_iinc (v := (nI 1)) (pc1 := 77) (pc := 74) k_M_walks_74 rfl rfl (by decide) ?_
            | refine T_aload_n (pc1 := 78) (pc := 77) k_M_walks_77 rfl rfl ?_
            | refine T_aload_nN (pc1 := 78) (pc := 77) k_M_walks_77 rfl rfl ?_
            | refine T_iload (pc1 := 80) (pc := 78) k_M_walks_78 rfl rfl ?_
            | (refine T_cV (As := [_]) (d1 := 3) (pc1 := 83) (pc := 80) k_M_walks_80 rfl (by decide) (Nat.le_of_ble_eq_true rfl) rfl o_M_isBarred l_M_146 rfl (by first | exact ga G (by decide) rfl | assumption) rfl (c_M_isBarred G (by assumption) (by assumption) (by assumption) (fun hb1 => ?_) (fun hb1 => ?_)) <;> try dsimp only [psh])
            | (with_reducible refine T_if_eqN (tgt := 101) (pc1 := 86) (pc := 83) k_M_walks_83 (by decide) (by decide) (by omega) (fun hc => ?_) (fun hc => ?_) <;> first | (exfalso; omega) | skip)
            | refine T_if_eq_t (tgt := 101) (pc := 83) k_M_walks_83 rfl (by decide) ?_
            | refine T_if_eq_f (tgt := 101) (pc1 := 86) (pc := 83) k_M_walks_83 rfl rfl (by decide) ?_
            | refine T_if_eq (tgt := 101) (pc1 := 86) (pc := 83) k_M_walks_83 rfl rfl (fun hc => ?_) (fun hc => ?_)
            | refine T_iload (pc1 := 88) (pc := 86) k_M_walks_86 rfl rfl ?_
            | refine T_iconst (v := (nI 1)) (pc1 := 89) (pc := 88) k_M_walks_88 rfl (by decide) ?_
            | refine T_iload (pc1 := 91) (pc := 89) k_M_walks_89 rfl rfl ?_
            | refine T_ishl (pc1 := 92) (pc := 91) k_M_walks_91 rfl ?_
            | refine T_ior (pc1 := 93) (pc := 92) k_M_walks_92 rfl ?_
            | refine T_istore (pc1 := 95) (pc := 93) k_M_walks_93 rfl (Nat.le_of_ble_eq_true rfl) ?_
            | refine T_iincN (b := 1) (pc1 := 98) (pc := 95) k_M_walks_95 rfl rfl (by decide) ?_
            | refine T_iinc (v := (nI 1)) (pc1 := 98) (pc := 95) k_M_walks_95 rfl rfl (by decide) ?_
            | refine T_goto (tgt := 177) (pc := 98) k_M_walks_98 rfl ?_
            | refine T_aload_n (pc1 := 102) (pc := 101) k_M_walks_101 rfl rfl ?_
            | refine T_aload_nN (pc1 := 102) (pc := 101) k_M_walks_101 rfl rfl ?_
            | refine T_iload (pc1 := 104) (pc := 102) k_M_walks_102 rfl rfl ?_
            | (refine T_cV (As := [_]) (d1 := 4) (pc1 := 107) (pc := 104) k_M_walks_104 rfl (by decide) (Nat.le_of_ble_eq_true rfl) rfl o_M_takes l_M_143 rfl (by first | exact ga G (by decide) rfl | assumption) rfl (c_M_takes G (by assumption) (by assumption) (by assumption) (fun J hJ => ?_)) <;> try dsimp only [psh])
            | refine T_istore (pc1 := 109) (pc := 107) k_M_walks_107 rfl (Nat.le_of_ble_eq_true rfl) ?_
            | refine T_iload (pc1 := 111) (pc := 109) k_M_walks_109 rfl rfl ?_
            | refine T_iload (pc1 := 113) (pc := 111) k_M_walks_111 rfl rfl ?_
            | with_reducible refine T_iaddN (pc1 := 114) (pc := 113) k_M_walks_113 (by decide) ?_
            | refine T_iadd (pc1 := 114) (pc := 113) k_M_walks_113 rfl ?_
            | refine T_istore (pc1 := 116) (pc := 114) k_M_walks_114 rfl (Nat.le_of_ble_eq_true rfl) ?_
            | refine T_aload_n (pc1 := 117) (pc := 116) k_M_walks_116 rfl rfl ?_
            | refine T_aload_nN (pc1 := 117) (pc := 116) k_M_walks_116 rfl rfl ?_
            | refine T_getR (pc1 := 120) (pc := 117) k_M_walks_117 rfl f_M_9 rfl (by first | exact ga G (by decide) rfl | assumption) (by first | exact gr G (by decide) rfl | assumption) ?_
            | refine T_bipush (v := (nI 12)) (pc1 := 122) (pc := 120) k_M_walks_120 rfl (by decide) ?_
            | refine T_bipush (v := (nI 6)) (pc1 := 124) (pc := 122) k_M_walks_122 rfl (by decide) ?_
            | refine T_iload (pc1 := 126) (pc := 124) k_M_walks_124 rfl rfl ?_
            | with_reducible refine T_imulN (pc1 := 127) (pc := 126) k_M_walks_126 (by decide) ?_
            | refine T_imul (pc1 := 127) (pc := 126) k_M_walks_126 rfl ?_
            | with_reducible refine T_iaddN (pc1 := 128) (pc := 127) k_M_walks_127 (by decide) ?_
            | refine T_iadd (pc1 := 128) (pc := 127) k_M_walks_127 rfl ?_
            | refine T_iconst (v := (nI 5)) (pc1 := 129) (pc := 128) k_M_walks_128 rfl (by decide) ?_
            | with_reducible refine T_iaddN (pc1 := 130) (pc := 129) k_M_walks_129 (by decide) ?_
            | refine T_iadd (pc1 := 130) (pc := 129) k_M_walks_129 rfl ?_
            | refine T_sipush (v := (nI 999)) (pc1 := 133) (pc := 130) k_M_walks_130 rfl (by decide) ?_
            | refine T_iload (pc1 := 135) (pc := 133) k_M_walks_133 rfl rfl ?_
            | refine T_mminV (pc1 := 138) (pc := 135) k_M_walks_135 rfl l_M_82 (by decide) (Nat.le_of_ble_eq_true rfl) (by with_reducible rfl) (by with_reducible rfl) (by omega) (by omega) ?_
            | refine T_mmin (pc1 := 138) (pc := 135) k_M_walks_135 rfl l_M_82 (by decide) (Nat.le_of_ble_eq_true rfl) ?_
            | refine T_iastN (pc1 := 139) (pc := 138) k_M_walks_138 rfl (by first | exact ga G (by decide) rfl | assumption) (by omega) (by omega) ?_
            | refine T_aload_n (pc1 := 140) (pc := 139) k_M_walks_139 rfl rfl ?_
            | refine T_aload_nN (pc1 := 140) (pc := 139) k_M_walks_139 rfl rfl ?_
            | refine T_getR (pc1 := 143) (pc := 140) k_M_walks_140 rfl f_M_9 rfl (by first | exact ga G (by decide) rfl | assumption) (by first | exact gr G (by decide) rfl | assumption) ?_
            | refine T_bipush (v := (nI 12)) (pc1 := 145) (pc := 143) k_M_walks_143 rfl (by decide) ?_
            | refine T_bipush (v := (nI 6)) (pc1 := 147) (pc := 145) k_M_walks_145 rfl (by decide) ?_
            | refine T_iload (pc1 := 149) (pc := 147) k_M_walks_147 rfl rfl ?_
            | with_reducible refine T_imulN (pc1 := 150) (pc := 149) k_M_walks_149 (by decide) ?_
            | refine T_imul (pc1 := 150) (pc := 149) k_M_walks_149 rfl ?_
            | with_reducible refine T_iaddN (pc1 := 151) (pc := 150) k_M_walks_150 (by decide) ?_
            | refine T_iadd (pc1 := 151) (pc := 150) k_M_walks_150 rfl ?_
            | refine T_iconst (v := (nI 4)) (pc1 := 152) (pc := 151) k_M_walks_151 rfl (by decide) ?_
            | with_reducible refine T_iaddN (pc1 := 153) (pc := 152) k_M_walks_152 (by decide) ?_
            | refine T_iadd (pc1 := 153) (pc := 152) k_M_walks_152 rfl ?_
            | refine T_sipush (v := (nI 999)) (pc1 := 156) (pc := 153) k_M_walks_153 rfl (by decide) ?_
            | refine T_aload_n (pc1 := 157) (pc := 156) k_M_walks_156 rfl rfl ?_
            | refine T_aload_nN (pc1 := 157) (pc := 156) k_M_walks_156 rfl rfl ?_
            | refine T_iload (pc1 := 159) (pc := 157) k_M_walks_157 rfl rfl ?_
            | refine T_iconst (v := (nI 4)) (pc1 := 160) (pc := 159) k_M_walks_159 rfl (by decide) ?_
            | (refine T_cV (As := [_, _]) (d1 := 1) (pc1 := 163) (pc := 160) k_M_walks_160 rfl (by decide) (Nat.le_of_ble_eq_true rfl) rfl o_M_bitIs l_M_124 rfl (by first | exact ga G (by decide) rfl | assumption) rfl (c_M_bitN G (by assumption) (by omega) (by omega) (by first | assumption | rfl) ?_) <;> try dsimp only [psh])
            | refine T_iconst (v := (nI 1)) (pc1 := 164) (pc := 163) k_M_walks_163 rfl (by decide) ?_
            | with_reducible refine T_iaddN (pc1 := 165) (pc := 164) k_M_walks_164 (by decide) ?_
            | refine T_iadd (pc1 := 165) (pc := 164) k_M_walks_164 rfl ?_
            | refine T_mminV (pc1 := 168) (pc := 165) k_M_walks_165 rfl l_M_82 (by decide) (Nat.le_of_ble_eq_true rfl) (by with_reducible rfl) (by with_reducible rfl) (by omega) (by omega) ?_
            | refine T_mmin (pc1 := 168) (pc := 165) k_M_walks_165 rfl l_M_82 (by decide) (Nat.le_of_ble_eq_true rfl) ?_
            | refine T_iastN (pc1 := 169) (pc := 168) k_M_walks_168 rfl (by first | exact ga G (by decide) rfl | assumption) (by omega) (by omega) ?_
            | refine T_aload_n (pc1 := 170) (pc := 169) k_M_walks_169 rfl rfl ?_
            | refine T_aload_nN (pc1 := 170) (pc := 169) k_M_walks_169 rfl rfl ?_
            | refine T_iload (pc1 := 172) (pc := 170) k_M_walks_170 rfl rfl ?_
            | refine T_iload_n (pc1 := 173) (pc := 172) k_M_walks_172 rfl rfl ?_
            | refine T_istore_n (pc1 := 177) (pc := 176) k_M_walks_176 rfl (Nat.le_of_ble_eq_true rfl) ?_
            | refine T_goto (tgt := 14) (pc := 177) k_M_walks_177 rfl ?_
            | refine T_getR (pc1 := 184) (pc := 181) k_M_walks_181 rfl f_M_9 rfl (by first | exact ga G (by decide) rfl | assumption) (by first | exact gr G (by decide) rfl | assumption) ?_
            | refine T_bipush (v := (nI 7)) (pc1 := 186) (pc := 184) k_M_walks_184 rfl (by decide) ?_
            | refine T_iconst (v := (nI 1)) (pc1 := 187) (pc := 186) k_M_walks_186 rfl (by decide) ?_
            | refine T_iastN (pc1 := 188) (pc := 187) k_M_walks_187 rfl (by first | exact ga G (by decide) rfl | assumption) (by omega) (by omega) ?_
            | refine T_aload_n (pc1 := 189) (pc := 188) k_M_walks_188 rfl rfl ?_
            | refine T_aload_nN (pc1 := 189) (pc := 188) k_M_walks_188 rfl rfl ?_
            | refine T_getR (pc1 := 192) (pc := 189) k_M_walks_189 rfl f_M_9 rfl (by first | exact ga G (by decide) rfl | assumption) (by first | exact gr G (by decide) rfl | assumption) ?_
            | refine T_bipush (v := (nI 8)) (pc1 := 194) (pc := 192) k_M_walks_192 rfl (by decide) ?_
            | refine T_iload (pc1 := 196) (pc := 194) k_M_walks_194 rfl rfl ?_
            | refine T_iastN (pc1 := 197) (pc := 196) k_M_walks_196 rfl (by first | exact ga G (by decide) rfl | assumption) (by omega) (by omega) ?_
            | refine T_aload_n (pc1 := 198) (pc := 197) k_M_walks_197 rfl rfl ?_
            | refine T_aload_nN (pc1 := 198) (pc := 197) k_M_walks_197 rfl rfl ?_
            | refine T_getR (pc1 := 201) (pc := 198) k_M_walks_198 rfl f_M_9 rfl (by first | exact ga G (by decide) rfl | assumption) (by first | exact gr G (by decide) rfl | assumption) ?_
            | refine T_bipush (v := (nI 9)) (pc1 := 203) (pc := 201) k_M_walks_201 rfl (by decide) ?_
            | refine T_iload (pc1 := 205) (pc := 203) k_M_walks_203 rfl rfl ?_
            | refine T_iastN (pc1 := 206) (pc := 205) k_M_walks_205 rfl (by first | exact ga G (by decide) rfl | assumption) (by omega) (by omega) ?_
            | refine T_aload_n (pc1 := 207) (pc := 206) k_M_walks_206 rfl rfl ?_
            | refine T_aload_nN (pc1 := 207) (pc := 206) k_M_walks_206 rfl rfl ?_
            | refine T_getR (pc1 := 210) (pc := 207) k_M_walks_207 rfl f_M_9 rfl (by first | exact ga G (by decide) rfl | assumption) (by first | exact gr G (by decide) rfl | assumption) ?_
            | refine T_bipush (v := (nI 10)) (pc1 := 212) (pc := 210) k_M_walks_210 rfl (by decide) ?_
            | refine T_iload_n (pc1 := 213) (pc := 212) k_M_walks_212 rfl rfl ?_
            | refine T_iastN (pc1 := 214) (pc := 213) k_M_walks_213 rfl (by first | exact ga G (by decide) rfl | assumption) (by omega) (by omega) ?_
            | refine T_aload_n (pc1 := 215) (pc := 214) k_M_walks_214 rfl rfl ?_
            | refine T_aload_nN (pc1 := 215) (pc := 214) k_M_walks_214 rfl rfl ?_
            | refine T_getR (pc1 := 218) (pc := 215) k_M_walks_215 rfl f_M_9 rfl (by first | exact ga G (by decide) rfl | assumption) (by first | exact gr G (by decide) rfl | assumption) ?_
            | refine T_bipush (v := (nI 11)) (pc1 := 220) (pc := 218) k_M_walks_218 rfl (by decide) ?_
            | refine T_iload (pc1 := 222) (pc := 220) k_M_walks_220 rfl rfl ?_
            | refine T_iastN (pc1 := 223) (pc := 222) k_M_walks_222 rfl (by first | exact ga G (by decide) rfl | assumption) (by omega) (by omega) ?_
            | refine T_aload_n (pc1 := 224) (pc := 223) k_M_walks_223 rfl rfl ?_
            | refine T_aload_nN (pc1 := 224) (pc := 223) k_M_walks_223 rfl rfl ?_
            | refine T_getR (pc1 := 227) (pc := 224) k_M_walks_224 rfl f_M_9 rfl (by first | exact ga G (by decide) rfl | assumption) (by first | exact gr G (by decide) rfl | assumption) ?_
            | refine T_iconst (v := (nI 1)) (pc1 := 228) (pc := 227) k_M_walks_227 rfl (by decide) ?_
            | refine T_dup2 (pc1 := 229) (pc := 228) k_M_walks_228 rfl rfl rfl ?_
            | refine T_ialdN (pc1 := 230) (pc := 229) k_M_walks_229 rfl (by first | exact ga G (by decide) rfl | assumption) (by omega) (by omega) (by first | assumption | (simp (disch := omega) only [pI_eq, pI_row, pI_col, va_up_self, va_up_ne, ne_eq, not_false_eq_true, hJN] <;> rfl) | rfl) ?_
            | refine T_iald (pc1 := 230) (pc := 229) k_M_walks_229 rfl (by first | exact ga G (by decide) rfl | assumption) (by assumption) ?_
            | refine T_iconst (v := (nI 1)) (pc1 := 231) (pc := 230) k_M_walks_230 rfl (by decide) ?_
            | with_reducible refine T_iaddN (pc1 := 232) (pc := 231) k_M_walks_231 (by decide) ?_
            | refine T_iadd (pc1 := 232) (pc := 231) k_M_walks_231 rfl ?_
            | refine T_iastN (pc1 := 233) (pc := 232) k_M_walks_232 rfl (by first | exact ga G (by decide) rfl | assumption) (by omega) (by omega) ?_
            | refine T_aload_n (pc1 := 234) (pc := 233) k_M_walks_233 rfl rfl ?_
            | refine T_aload_nN (pc1 := 234) (pc := 233) k_M_walks_233 rfl rfl ?_
            | refine T_getR (pc1 := 237) (pc := 234) k_M_walks_234 rfl f_M_9 rfl (by first | exact ga G (by decide) rfl | assumption) (by first | exact gr G (by decide) rfl | assumption) ?_
            | refine T_iconst (v := (nI 2)) (pc1 := 238) (pc := 237) k_M_walks_237 rfl (by decide) ?_
            | refine T_dup2 (pc1 := 239) (pc := 238) k_M_walks_238 rfl rfl rfl ?_
            | refine T_ialdN (pc1 := 240) (pc := 239) k_M_walks_239 rfl (by first | exact ga G (by decide) rfl | assumption) (by omega) (by omega) (by first | assumption | (simp (disch := omega) only [pI_eq, pI_row, pI_col, va_up_self, va_up_ne, ne_eq, not_false_eq_true, hJN] <;> rfl) | rfl) ?_
            | refine T_iald (pc1 := 240) (pc := 239) k_M_walks_239 rfl (by first | exact ga G (by decide) rfl | assumption) (by assumption) ?_
            | refine T_iload (pc1 := 242) (pc := 240) k_M_walks_240 rfl rfl ?_
            | with_reducible refine T_iaddN (pc1 := 243) (pc := 242) k_M_walks_242 (by decide) ?_
            | refine T_iadd (pc1 := 243) (pc := 242) k_M_walks_242 rfl ?_
            | refine T_iastN (pc1 := 244) (pc := 243) k_M_walks_243 rfl (by first | exact ga G (by decide) rfl | assumption) (by omega) (by omega) ?_
            | refine T_iload (pc1 := 246) (pc := 244) k_M_walks_244 rfl rfl ?_
            | refine T_retI (pc := 246) k_M_walks_246 rfl (by first | rfl | decide | assumption) ?_)
          exact fin _ _ _ _ _ _ J1 _ _ (eqx_tr hJ (eqx_mono hJ1 (by decide))) ((hJ1 102 (by decide)).trans hJN) hw
        | some b =>
          rw [hnx] at hw
          dsimp only at hw
          obtain ⟨hbn, hcb, hend⟩ := nxt_in hnx
          repeat' (first
            | refine T_iload_n (pc1 := 1) (pc := 0) k_M_walks_0 rfl rfl ?_
            | refine T_istore_n (pc1 := 2) (pc := 1) k_M_walks_1 rfl (Nat.le_of_ble_eq_true rfl) ?_
            | refine T_iconst (v := (nI 0)) (pc1 := 3) (pc := 2) k_M_walks_2 rfl (by decide) ?_
            | refine T_istore (pc1 := 5) (pc := 3) k_M_walks_3 rfl (Nat.le_of_ble_eq_true rfl) ?_
            | refine T_iconst (v := (nI 0)) (pc1 := 6) (pc := 5) k_M_walks_5 rfl (by decide) ?_
            | refine T_istore (pc1 := 8) (pc := 6) k_M_walks_6 rfl (Nat.le_of_ble_eq_true rfl) ?_
            | refine T_iconst (v := (nI 0)) (pc1 := 9) (pc := 8) k_M_walks_8 rfl (by decide) ?_
            | refine T_istore (pc1 := 11) (pc := 9) k_M_walks_9 rfl (Nat.le_of_ble_eq_true rfl) ?_
            | refine T_iconst (v := (nI 0)) (pc1 := 12) (pc := 11) k_M_walks_11 rfl (by decide) ?_
            | refine T_istore (pc1 := 14) (pc := 12) k_M_walks_12 rfl (Nat.le_of_ble_eq_true rfl) ?_
            | refine T_iload_n (pc1 := 15) (pc := 14) k_M_walks_14 rfl rfl ?_
            | refine T_iload_n (pc1 := 16) (pc := 15) k_M_walks_15 rfl rfl ?_
            | (with_reducible refine T_icmp_eqN (tgt := 180) (pc1 := 19) (pc := 16) k_M_walks_16 (by decide) (by decide) (by omega) (by omega) (fun hc => ?_) (fun hc => ?_) <;> first | (exfalso; omega) | skip)
            | refine T_icmp_eq_t (tgt := 180) (pc := 16) k_M_walks_16 rfl (by decide) ?_
            | refine T_icmp_eq_f (tgt := 180) (pc1 := 19) (pc := 16) k_M_walks_16 rfl rfl (by decide) ?_
            | refine T_icmp_eq (tgt := 180) (pc1 := 19) (pc := 16) k_M_walks_16 rfl rfl (fun hc => ?_) (fun hc => ?_)
            | refine T_iload (pc1 := 21) (pc := 19) k_M_walks_19 rfl rfl ?_
            | (with_reducible refine T_if_neN (tgt := 180) (pc1 := 24) (pc := 21) k_M_walks_21 (by decide) (by decide) (by omega) (fun hc => ?_) (fun hc => ?_) <;> first | (exfalso; omega) | skip)
            | refine T_if_ne_t (tgt := 180) (pc := 21) k_M_walks_21 rfl (by decide) ?_
            | refine T_if_ne_f (tgt := 180) (pc1 := 24) (pc := 21) k_M_walks_21 rfl rfl (by decide) ?_
            | refine T_if_ne (tgt := 180) (pc1 := 24) (pc := 21) k_M_walks_21 rfl rfl (fun hc => ?_) (fun hc => ?_)
            | refine T_aload_n (pc1 := 25) (pc := 24) k_M_walks_24 rfl rfl ?_
            | refine T_aload_nN (pc1 := 25) (pc := 24) k_M_walks_24 rfl rfl ?_
            | refine T_iload_n (pc1 := 26) (pc := 25) k_M_walks_25 rfl rfl ?_
            | refine T_iload_n (pc1 := 27) (pc := 26) k_M_walks_26 rfl rfl ?_
            | refine T_iload (pc1 := 29) (pc := 27) k_M_walks_27 rfl rfl ?_
            | (refine T_cV (As := [_, _, _]) (d1 := 4) (pc1 := 32) (pc := 29) k_M_walks_29 rfl (by decide) (Nat.le_of_ble_eq_true rfl) rfl o_M_firstBit l_M_171 rfl (by first | exact ga G (by decide) rfl | assumption) rfl (c_M_firstBit G hJN ok hF ha ht (fun J1 hJ1 => ?_)) <;> try dsimp only [psh])
            | refine T_iload (pc1 := 36) (pc := 34) k_M_walks_34 rfl rfl ?_
            | (with_reducible refine T_if_geN (tgt := 43) (pc1 := 39) (pc := 36) k_M_walks_36 (by decide) (by decide) (by omega) ?_ <;> first | (exfalso; omega) | skip)
            | refine T_if_ge_t (tgt := 43) (pc := 36) k_M_walks_36 rfl (by decide) ?_
            | refine T_if_ge_f (tgt := 43) (pc1 := 39) (pc := 36) k_M_walks_36 rfl rfl (by decide) ?_
            | refine T_if_ge (tgt := 43) (pc1 := 39) (pc := 36) k_M_walks_36 rfl rfl (fun hc => ?_) (fun hc => ?_)
            | refine T_iconst (v := (nI 1)) (pc1 := 40) (pc := 39) k_M_walks_39 rfl (by decide) ?_
            | refine T_goto (tgt := 55) (pc := 40) k_M_walks_40 rfl ?_
            | refine T_iload (pc1 := 45) (pc := 43) k_M_walks_43 rfl rfl ?_
            | refine T_bipush (v := (nI 60)) (pc1 := 47) (pc := 45) k_M_walks_45 rfl (by decide) ?_
            | (with_reducible refine T_icmp_neN (tgt := 54) (pc1 := 50) (pc := 47) k_M_walks_47 (by decide) (by decide) (by omega) (by omega) (fun hc => ?_) (fun hc => ?_) <;> first | (exfalso; omega) | skip)
            | refine T_icmp_ne_t (tgt := 54) (pc := 47) k_M_walks_47 rfl (by decide) ?_
            | refine T_icmp_ne_f (tgt := 54) (pc1 := 50) (pc := 47) k_M_walks_47 rfl rfl (by decide) ?_
            | refine T_icmp_ne (tgt := 54) (pc1 := 50) (pc := 47) k_M_walks_47 rfl rfl (fun hc => ?_) (fun hc => ?_)
            | refine T_iconst (v := (nI 2)) (pc1 := 51) (pc := 50) k_M_walks_50 rfl (by decide) ?_
            | refine T_goto (tgt := 55) (pc := 51) k_M_walks_51 rfl ?_
            | refine T_iconst (v := (nI 0)) (pc1 := 55) (pc := 54) k_M_walks_54 rfl (by decide) ?_
            | refine T_istore (pc1 := 57) (pc := 55) k_M_walks_55 rfl (Nat.le_of_ble_eq_true rfl) ?_
            | refine T_iload (pc1 := 59) (pc := 57) k_M_walks_57 rfl rfl ?_
            | (with_reducible refine T_if_neN (tgt := 177) (pc1 := 62) (pc := 59) k_M_walks_59 (by decide) (by decide) (by omega) (fun hc => ?_) (fun hc => ?_) <;> first | (exfalso; omega) | skip)
            | refine T_if_ne_t (tgt := 177) (pc := 59) k_M_walks_59 rfl (by decide) ?_
            | refine T_if_ne_f (tgt := 177) (pc1 := 62) (pc := 59) k_M_walks_59 rfl rfl (by decide) ?_
            | refine T_if_ne (tgt := 177) (pc1 := 62) (pc := 59) k_M_walks_59 rfl rfl (fun hc => ?_) (fun hc => ?_)
            | refine T_aload_n (pc1 := 63) (pc := 62) k_M_walks_62 rfl rfl ?_
            | refine T_aload_nN (pc1 := 63) (pc := 62) k_M_walks_62 rfl rfl ?_
            | refine T_getR (pc1 := 66) (pc := 63) k_M_walks_63 rfl f_M_9 rfl (by first | exact ga G (by decide) rfl | assumption) (by first | exact gr G (by decide) rfl | assumption) ?_
            | refine T_bipush (v := (nI 96)) (pc1 := 68) (pc := 66) k_M_walks_66 rfl (by decide) ?_
            | refine T_iload (pc1 := 70) (pc := 68) k_M_walks_68 rfl rfl ?_
            | with_reducible refine T_iaddN (pc1 := 71) (pc := 70) k_M_walks_70 (by decide) ?_
            | refine T_iadd (pc1 := 71) (pc := 70) k_M_walks_70 rfl ?_
            | refine T_iload (pc1 := 73) (pc := 71) k_M_walks_71 rfl rfl ?_
            | refine T_iastN (pc1 := 74) (pc := 73) k_M_walks_73 rfl (by first | exact ga G (by decide) rfl | assumption) (by omega) (by omega) ?_
            | refine T_iincN (b := 1) (pc1 := 77) (pc := 74) k_M_walks_74 rfl rfl (by decide) ?_
            | refine T_iinc (v := (nI 1)) (pc1 := 77) (pc := 74) k_M_walks_74 rfl rfl (by decide) ?_
            | refine T_aload_n (pc1 := 78) (pc := 77) k_M_walks_77 rfl rfl ?_
            | refine T_aload_nN (pc1 := 78) (pc := 77) k_M_walks_77 rfl rfl ?_
            | refine T_iload (pc1 := 80) (pc := 78) k_M_walks_78 rfl rfl ?_
            | (refine T_cV (As := [_]) (d1 := 3) (pc1 := 83) (pc := 80) k_M_walks_80 rfl (by decide) (Nat.le_of_ble_eq_true rfl) rfl o_M_isBarred l_M_146 rfl (by first | exact ga G (by decide) rfl | assumption) rfl (c_M_isBarred G (by assumption) (by assumption) (by assumption) (fun hb1 => ?_) (fun hb1 => ?_)) <;> try dsimp only [psh])
            | (with_reducible refine T_if_eqN (tgt := 101) (pc1 := 86) (pc := 83) k_M_walks_83 (by decide) (by decide) (by omega) (fun hc => ?_) (fun hc => ?_) <;> first | (exfalso; omega) | skip)
            | refine T_if_eq_t (tgt := 101) (pc := 83) k_M_walks_83 rfl (by decide) ?_
            | refine T_if_eq_f (tgt := 101) (pc1 := 86) (pc := 83) k_M_walks_83 rfl rfl (by decide) ?_
            | refine T_if_eq (tgt := 101) (pc1 := 86) (pc := 83) k_M_walks_83 rfl rfl (fun hc => ?_) (fun hc => ?_)
            | refine T_iload (pc1 := 88) (pc := 86) k_M_walks_86 rfl rfl ?_
            | refine T_iconst (v := (nI 1)) (pc1 := 89) (pc := 88) k_M_walks_88 rfl (by decide) ?_
            | refine T_iload (pc1 := 91) (pc := 89) k_M_walks_89 rfl rfl ?_
            | refine T_ishl (pc1 := 92) (pc := 91) k_M_walks_91 rfl ?_
            | refine T_ior (pc1 := 93) (pc := 92) k_M_walks_92 rfl ?_
            | refine T_istore (pc1 := 95) (pc := 93) k_M_walks_93 rfl (Nat.le_of_ble_eq_true rfl) ?_
            | refine T_iincN (b := 1) (pc1 := 98) (pc := 95) k_M_walks_95 rfl rfl (by decide) ?_
            | refine T_iinc (v := (nI 1)) (pc1 := 98) (pc := 95) k_M_walks_95 rfl rfl (by decide) ?_
            | refine T_goto (tgt := 177) (pc := 98) k_M_walks_98 rfl ?_
            | refine T_aload_n (pc1 := 102) (pc := 101) k_M_walks_101 rfl rfl ?_
            | refine T_aload_nN (pc1 := 102) (pc := 101) k_M_walks_101 rfl rfl ?_
            | refine T_iload (pc1 := 104) (pc := 102) k_M_walks_102 rfl rfl ?_
            | (refine T_cV (As := [_]) (d1 := 4) (pc1 := 107) (pc := 104) k_M_walks_104 rfl (by decide) (Nat.le_of_ble_eq_true rfl) rfl o_M_takes l_M_143 rfl (by first | exact ga G (by decide) rfl | assumption) rfl (c_M_takes G (by assumption) (by assumption) (by assumption) (fun J hJ => ?_)) <;> try dsimp only [psh])
            | refine T_istore (pc1 := 109) (pc := 107) k_M_walks_107 rfl (Nat.le_of_ble_eq_true rfl) ?_
            | refine T_iload (pc1 := 111) (pc := 109) k_M_walks_109 rfl rfl ?_
            | refine T_iload (pc1 := 113) (pc := 111) k_M_walks_111 rfl rfl ?_
            | with_reducible refine T_iaddN (pc1 := 114) (pc := 113) k_M_walks_113 (by decide) ?_
            | refine T_iadd (pc1 := 114) (pc := 113) k_M_walks_113 rfl ?_
            | refine T_istore (pc1 := 116) (pc := 114) k_M_walks_114 rfl (Nat.le_of_ble_eq_true rfl) ?_
            | refine T_aload_n (pc1 := 117) (pc := 116) k_M_walks_116 rfl rfl ?_
            | refine T_aload_nN (pc1 := 117) (pc := 116) k_M_walks_116 rfl rfl ?_
            | refine T_getR (pc1 := 120) (pc := 117) k_M_walks_117 rfl f_M_9 rfl (by first | exact ga G (by decide) rfl | assumption) (by first | exact gr G (by decide) rfl | assumption) ?_
            | refine T_bipush (v := (nI 12)) (pc1 := 122) (pc := 120) k_M_walks_120 rfl (by decide) ?_
            | refine T_bipush (v := (nI 6)) (pc1 := 124) (pc := 122) k_M_walks_122 rfl (by decide) ?_
            | refine T_iload (pc1 := 126) (pc := 124) k_M_walks_124 rfl rfl ?_
            | with_reducible refine T_imulN (pc1 := 127) (pc := 126) k_M_walks_126 (by decide) ?_
            | refine T_imul (pc1 := 127) (pc := 126) k_M_walks_126 rfl ?_
            | with_reducible refine T_iaddN (pc1 := 128) (pc := 127) k_M_walks_127 (by decide) ?_
            | refine T_iadd (pc1 := 128) (pc := 127) k_M_walks_127 rfl ?_
            | refine T_iconst (v := (nI 5)) (pc1 := 129) (pc := 128) k_M_walks_128 rfl (by decide) ?_
            | with_reducible refine T_iaddN (pc1 := 130) (pc := 129) k_M_walks_129 (by decide) ?_
            | refine T_iadd (pc1 := 130) (pc := 129) k_M_walks_129 rfl ?_
            | refine T_sipush (v := (nI 999)) (pc1 := 133) (pc := 130) k_M_walks_130 rfl (by decide) ?_
            | refine T_iload (pc1 := 135) (pc := 133) k_M_walks_133 rfl rfl ?_
            | refine T_mminV (pc1 := 138) (pc := 135) k_M_walks_135 rfl l_M_82 (by decide) (Nat.le_of_ble_eq_true rfl) (by with_reducible rfl) (by with_reducible rfl) (by omega) (by omega) ?_
            | refine T_mmin (pc1 := 138) (pc := 135) k_M_walks_135 rfl l_M_82 (by decide) (Nat.le_of_ble_eq_true rfl) ?_
            | refine T_iastN (pc1 := 139) (pc := 138) k_M_walks_138 rfl (by first | exact ga G (by decide) rfl | assumption) (by omega) (by omega) ?_
            | refine T_aload_n (pc1 := 140) (pc := 139) k_M_walks_139 rfl rfl ?_
            | refine T_aload_nN (pc1 := 140) (pc := 139) k_M_walks_139 rfl rfl ?_
            | refine T_getR (pc1 := 143) (pc := 140) k_M_walks_140 rfl f_M_9 rfl (by first | exact ga G (by decide) rfl | assumption) (by first | exact gr G (by decide) rfl | assumption) ?_
            | refine T_bipush (v := (nI 12)) (pc1 := 145) (pc := 143) k_M_walks_143 rfl (by decide) ?_
            | refine T_bipush (v := (nI 6)) (pc1 := 147) (pc := 145) k_M_walks_145 rfl (by decide) ?_
            | refine T_iload (pc1 := 149) (pc := 147) k_M_walks_147 rfl rfl ?_
            | with_reducible refine T_imulN (pc1 := 150) (pc := 149) k_M_walks_149 (by decide) ?_
            | refine T_imul (pc1 := 150) (pc := 149) k_M_walks_149 rfl ?_
            | with_reducible refine T_iaddN (pc1 := 151) (pc := 150) k_M_walks_150 (by decide) ?_
            | refine T_iadd (pc1 := 151) (pc := 150) k_M_walks_150 rfl ?_
            | refine T_iconst (v := (nI 4)) (pc1 := 152) (pc := 151) k_M_walks_151 rfl (by decide) ?_
            | with_reducible refine T_iaddN (pc1 := 153) (pc := 152) k_M_walks_152 (by decide) ?_
            | refine T_iadd (pc1 := 153) (pc := 152) k_M_walks_152 rfl ?_
            | refine T_sipush (v := (nI 999)) (pc1 := 156) (pc := 153) k_M_walks_153 rfl (by decide) ?_
            | refine T_aload_n (pc1 := 157) (pc := 156) k_M_walks_156 rfl rfl ?_
            | refine T_aload_nN (pc1 := 157) (pc := 156) k_M_walks_156 rfl rfl ?_
            | refine T_iload (pc1 := 159) (pc := 157) k_M_walks_157 rfl rfl ?_
            | refine T_iconst (v := (nI 4)) (pc1 := 160) (pc := 159) k_M_walks_159 rfl (by decide) ?_
            | (refine T_cV (As := [_, _]) (d1 := 1) (pc1 := 163) (pc := 160) k_M_walks_160 rfl (by decide) (Nat.le_of_ble_eq_true rfl) rfl o_M_bitIs l_M_124 rfl (by first | exact ga G (by decide) rfl | assumption) rfl (c_M_bitN G (by assumption) (by omega) (by omega) (by first | assumption | rfl) ?_) <;> try dsimp only [psh])
            | refine T_iconst (v := (nI 1)) (pc1 := 164) (pc := 163) k_M_walks_163 rfl (by decide) ?_
            | with_reducible refine T_iaddN (pc1 := 165) (pc := 164) k_M_walks_164 (by decide) ?_
            | refine T_iadd (pc1 := 165) (pc := 164) k_M_walks_164 rfl ?_
            | refine T_mminV (pc1 := 168) (pc := 165) k_M_walks_165 rfl l_M_82 (by decide) (Nat.le_of_ble_eq_true rfl) (by with_reducible rfl) (by with_reducible rfl) (by omega) (by omega) ?_
            | refine T_mmin (pc1 := 168) (pc := 165) k_M_walks_165 rfl l_M_82 (by decide) (Nat.le_of_ble_eq_true rfl) ?_
            | refine T_iastN (pc1 := 169) (pc := 168) k_M_walks_168 rfl (by first | exact ga G (by decide) rfl | assumption) (by omega) (by omega) ?_
            | refine T_aload_n (pc1 := 170) (pc := 169) k_M_walks_169 rfl rfl ?_
            | refine T_aload_nN (pc1 := 170) (pc := 169) k_M_walks_169 rfl rfl ?_
            | refine T_iload (pc1 := 172) (pc := 170) k_M_walks_170 rfl rfl ?_
            | refine T_iload_n (pc1 := 173) (pc := 172) k_M_walks_172 rfl rfl ?_
            | refine T_istore_n (pc1 := 177) (pc := 176) k_M_walks_176 rfl (Nat.le_of_ble_eq_true rfl) ?_
            | refine T_goto (tgt := 14) (pc := 177) k_M_walks_177 rfl ?_
            | refine T_getR (pc1 := 184) (pc := 181) k_M_walks_181 rfl f_M_9 rfl (by first | exact ga G (by decide) rfl | assumption) (by first | exact gr G (by decide) rfl | assumption) ?_
            | refine T_bipush (v := (nI 7)) (pc1 := 186) (pc := 184) k_M_walks_184 rfl (by decide) ?_
            | refine T_iconst (v := (nI 1)) (pc1 := 187) (pc := 186) k_M_walks_186 rfl (by decide) ?_
            | refine T_iastN (pc1 := 188) (pc := 187) k_M_walks_187 rfl (by first | exact ga G (by decide) rfl | assumption) (by omega) (by omega) ?_
            | refine T_aload_n (pc1 := 189) (pc := 188) k_M_walks_188 rfl rfl ?_
            | refine T_aload_nN (pc1 := 189) (pc := 188) k_M_walks_188 rfl rfl ?_
            | refine T_getR (pc1 := 192) (pc := 189) k_M_walks_189 rfl f_M_9 rfl (by first | exact ga G (by decide) rfl | assumption) (by first | exact gr G (by decide) rfl | assumption) ?_
            | refine T_bipush (v := (nI 8)) (pc1 := 194) (pc := 192) k_M_walks_192 rfl (by decide) ?_
            | refine T_iload (pc1 := 196) (pc := 194) k_M_walks_194 rfl rfl ?_
            | refine T_iastN (pc1 := 197) (pc := 196) k_M_walks_196 rfl (by first | exact ga G (by decide) rfl | assumption) (by omega) (by omega) ?_
            | refine T_aload_n (pc1 := 198) (pc := 197) k_M_walks_197 rfl rfl ?_
            | refine T_aload_nN (pc1 := 198) (pc := 197) k_M_walks_197 rfl rfl ?_
            | refine T_getR (pc1 := 201) (pc := 198) k_M_walks_198 rfl f_M_9 rfl (by first | exact ga G (by decide) rfl | assumption) (by first | exact gr G (by decide) rfl | assumption) ?_
            | refine T_bipush (v := (nI 9)) (pc1 := 203) (pc := 201) k_M_walks_201 rfl (by decide) ?_
            | refine T_iload (pc1 := 205) (pc := 203) k_M_walks_203 rfl rfl ?_
            | refine T_iastN (pc1 := 206) (pc := 205) k_M_walks_205 rfl (by first | exact ga G (by decide) rfl | assumption) (by omega) (by omega) ?_
            | refine T_aload_n (pc1 := 207) (pc := 206) k_M_walks_206 rfl rfl ?_
            | refine T_aload_nN (pc1 := 207) (pc := 206) k_M_walks_206 rfl rfl ?_
            | refine T_getR (pc1 := 210) (pc := 207) k_M_walks_207 rfl f_M_9 rfl (by first | exact ga G (by decide) rfl | assumption) (by first | exact gr G (by decide) rfl | assumption) ?_
            | refine T_bipush (v := (nI 10)) (pc1 := 212) (pc := 210) k_M_walks_210 rfl (by decide) ?_
            | refine T_iload_n (pc1 := 213) (pc := 212) k_M_walks_212 rfl rfl ?_
            | refine T_iastN (pc1 := 214) (pc := 213) k_M_walks_213 rfl (by first | exact ga G (by decide) rfl | assumption) (by omega) (by omega) ?_
            | refine T_aload_n (pc1 := 215) (pc := 214) k_M_walks_214 rfl rfl ?_
            | refine T_aload_nN (pc1 := 215) (pc := 214) k_M_walks_214 rfl rfl ?_
            | refine T_getR (pc1 := 218) (pc := 215) k_M_walks_215 rfl f_M_9 rfl (by first | exact ga G (by decide) rfl | assumption) (by first | exact gr G (by decide) rfl | assumption) ?_
            | refine T_bipush (v := (nI 11)) (pc1 := 220) (pc := 218) k_M_walks_218 rfl (by decide) ?_
            | refine T_iload (pc1 := 222) (pc := 220) k_M_walks_220 rfl rfl ?_
            | refine T_iastN (pc1 := 223) (pc := 222) k_M_walks_222 rfl (by first | exact ga G (by decide) rfl | assumption) (by omega) (by omega) ?_
            | refine T_aload_n (pc1 := 224) (pc := 223) k_M_walks_223 rfl rfl ?_
            | refine T_aload_nN (pc1 := 224) (pc := 223) k_M_walks_223 rfl rfl ?_
            | refine T_getR (pc1 := 227) (pc := 224) k_M_walks_224 rfl f_M_9 rfl (by first | exact ga G (by decide) rfl | assumption) (by first | exact gr G (by decide) rfl | assumption) ?_
            | refine T_iconst (v := (nI 1)) (pc1 := 228) (pc := 227) k_M_walks_227 rfl (by decide) ?_
            | refine T_dup2 (pc1 := 229) (pc := 228) k_M_walks_228 rfl rfl rfl ?_
            | refine T_ialdN (pc1 := 230) (pc := 229) k_M_walks_229 rfl (by first | exact ga G (by decide) rfl | assumption) (by omega) (by omega) (by first | assumption | (simp (disch := omega) only [pI_eq, pI_row, pI_col, va_up_self, va_up_ne, ne_eq, not_false_eq_true, hJN] <;> rfl) | rfl) ?_
            | refine T_iald (pc1 := 230) (pc := 229) k_M_walks_229 rfl (by first | exact ga G (by decide) rfl | assumption) (by assumption) ?_
            | refine T_iconst (v := (nI 1)) (pc1 := 231) (pc := 230) k_M_walks_230 rfl (by decide) ?_
            | with_reducible refine T_iaddN (pc1 := 232) (pc := 231) k_M_walks_231 (by decide) ?_
            | refine T_iadd (pc1 := 232) (pc := 231) k_M_walks_231 rfl ?_
            | refine T_iastN (pc1 := 233) (pc := 232) k_M_walks_232 rfl (by first | exact ga G (by decide) rfl | assumption) (by omega) (by omega) ?_
            | refine T_aload_n (pc1 := 234) (pc := 233) k_M_walks_233 rfl rfl ?_
            | refine T_aload_nN (pc1 := 234) (pc := 233) k_M_walks_233 rfl rfl ?_
            | refine T_getR (pc1 := 237) (pc := 234) k_M_walks_234 rfl f_M_9 rfl (by first | exact ga G (by decide) rfl | assumption) (by first | exact gr G (by decide) rfl | assumption) ?_
            | refine T_iconst (v := (nI 2)) (pc1 := 238) (pc := 237) k_M_walks_237 rfl (by decide) ?_
            | refine T_dup2 (pc1 := 239) (pc := 238) k_M_walks_238 rfl rfl rfl ?_
            | refine T_ialdN (pc1 := 240) (pc := 239) k_M_walks_239 rfl (by first | exact ga G (by decide) rfl | assumption) (by omega) (by omega) (by first | assumption | (simp (disch := omega) only [pI_eq, pI_row, pI_col, va_up_self, va_up_ne, ne_eq, not_false_eq_true, hJN] <;> rfl) | rfl) ?_
            | refine T_iald (pc1 := 240) (pc := 239) k_M_walks_239 rfl (by first | exact ga G (by decide) rfl | assumption) (by assumption) ?_
            | refine T_iload (pc1 := 242) (pc := 240) k_M_walks_240 rfl rfl ?_
            | with_reducible refine T_iaddN (pc1 := 243) (pc := 242) k_M_walks_242 (by decide) ?_
            | refine T_iadd (pc1 := 243) (pc := 242) k_M_walks_242 rfl ?_
            | refine T_iastN (pc1 := 244) (pc := 243) k_M_walks_243 rfl (by first | exact ga G (by decide) rfl | assumption) (by omega) (by omega) ?_
            | refine T_iload (pc1 := 246) (pc := 244) k_M_walks_244 rfl rfl ?_
            | refine T_retI (pc := 246) k_M_walks_246 rfl (by first | rfl | decide | assumption) ?_)
          rw [hnx, show opt1 (some b) = nI b from rfl]
          have hJ1N := (hJ1 102 (by decide)).trans hJN
          have hJ1x := eqx_tr hJ (eqx_mono (T := [102, 105, 106, 112, 113]) hJ1 (by decide))
          by_cases h60 : tr = 60
          · rw [if_pos h60] at hw
            repeat' (first
              | refine T_iload_n (pc1 := 1) (pc := 0) k_M_walks_0 rfl rfl ?_
              | refine T_istore_n (pc1 := 2) (pc := 1) k_M_walks_1 rfl (Nat.le_of_ble_eq_true rfl) ?_
              | refine T_iconst (v := (nI 0)) (pc1 := 3) (pc := 2) k_M_walks_2 rfl (by decide) ?_
              | refine T_istore (pc1 := 5) (pc := 3) k_M_walks_3 rfl (Nat.le_of_ble_eq_true rfl) ?_
              | refine T_iconst (v := (nI 0)) (pc1 := 6) (pc := 5) k_M_walks_5 rfl (by decide) ?_
              | refine T_istore (pc1 := 8) (pc := 6) k_M_walks_6 rfl (Nat.le_of_ble_eq_true rfl) ?_
              | refine T_iconst (v := (nI 0)) (pc1 := 9) (pc := 8) k_M_walks_8 rfl (by decide) ?_
              | refine T_istore (pc1 := 11) (pc := 9) k_M_walks_9 rfl (Nat.le_of_ble_eq_true rfl) ?_
              | refine T_iconst (v := (nI 0)) (pc1 := 12) (pc := 11) k_M_walks_11 rfl (by decide) ?_
              | refine T_istore (pc1 := 14) (pc := 12) k_M_walks_12 rfl (Nat.le_of_ble_eq_true rfl) ?_
              | refine T_iload_n (pc1 := 15) (pc := 14) k_M_walks_14 rfl rfl ?_
              | refine T_iload_n (pc1 := 16) (pc := 15) k_M_walks_15 rfl rfl ?_
              | (with_reducible refine T_icmp_eqN (tgt := 180) (pc1 := 19) (pc := 16) k_M_walks_16 (by decide) (by decide) (by omega) (by omega) (fun hc => ?_) (fun hc => ?_) <;> first | (exfalso; omega) | skip)
              | refine T_icmp_eq_t (tgt := 180) (pc := 16) k_M_walks_16 rfl (by decide) ?_
              | refine T_icmp_eq_f (tgt := 180) (pc1 := 19) (pc := 16) k_M_walks_16 rfl rfl (by decide) ?_
              | refine T_icmp_eq (tgt := 180) (pc1 := 19) (pc := 16) k_M_walks_16 rfl rfl (fun hc => ?_) (fun hc => ?_)
              | refine T_iload (pc1 := 21) (pc := 19) k_M_walks_19 rfl rfl ?_
              | (with_reducible refine T_if_neN (tgt := 180) (pc1 := 24) (pc := 21) k_M_walks_21 (by decide) (by decide) (by omega) (fun hc => ?_) (fun hc => ?_) <;> first | (exfalso; omega) | skip)
              | refine T_if_ne_t (tgt := 180) (pc := 21) k_M_walks_21 rfl (by decide) ?_
              | refine T_if_ne_f (tgt := 180) (pc1 := 24) (pc := 21) k_M_walks_21 rfl rfl (by decide) ?_
              | refine T_if_ne (tgt := 180) (pc1 := 24) (pc := 21) k_M_walks_21 rfl rfl (fun hc => ?_) (fun hc => ?_)
              | refine T_aload_n (pc1 := 25) (pc := 24) k_M_walks_24 rfl rfl ?_
              | refine T_aload_nN (pc1 := 25) (pc := 24) k_M_walks_24 rfl rfl ?_
              | refine T_iload_n (pc1 := 26) (pc := 25) k_M_walks_25 rfl rfl ?_
              | refine T_iload_n (pc1 := 27) (pc := 26) k_M_walks_26 rfl rfl ?_
              | refine T_iload (pc1 := 29) (pc := 27) k_M_walks_27 rfl rfl ?_
              | (refine T_cV (As := [_, _, _]) (d1 := 4) (pc1 := 32) (pc := 29) k_M_walks_29 rfl (by decide) (Nat.le_of_ble_eq_true rfl) rfl o_M_firstBit l_M_171 rfl (by first | exact ga G (by decide) rfl | assumption) rfl (c_M_firstBit G hJN ok hF ha ht (fun J1 hJ1 => ?_)) <;> try dsimp only [psh])
              | refine T_istore (pc1 := 34) (pc := 32) k_M_walks_32 rfl (Nat.le_of_ble_eq_true rfl) ?_
              | refine T_iload (pc1 := 36) (pc := 34) k_M_walks_34 rfl rfl ?_
              | (with_reducible refine T_if_geN (tgt := 43) (pc1 := 39) (pc := 36) k_M_walks_36 (by decide) (by decide) (by omega) ?_ <;> first | (exfalso; omega) | skip)
              | refine T_if_ge_t (tgt := 43) (pc := 36) k_M_walks_36 rfl (by decide) ?_
              | refine T_if_ge_f (tgt := 43) (pc1 := 39) (pc := 36) k_M_walks_36 rfl rfl (by decide) ?_
              | refine T_if_ge (tgt := 43) (pc1 := 39) (pc := 36) k_M_walks_36 rfl rfl (fun hc => ?_) (fun hc => ?_)
              | refine T_iconst (v := (nI 1)) (pc1 := 40) (pc := 39) k_M_walks_39 rfl (by decide) ?_
              | refine T_goto (tgt := 55) (pc := 40) k_M_walks_40 rfl ?_
              | refine T_iload (pc1 := 45) (pc := 43) k_M_walks_43 rfl rfl ?_
              | refine T_bipush (v := (nI 60)) (pc1 := 47) (pc := 45) k_M_walks_45 rfl (by decide) ?_
              | (with_reducible refine T_icmp_neN (tgt := 54) (pc1 := 50) (pc := 47) k_M_walks_47 (by decide) (by decide) (by omega) (by omega) (fun hc => ?_) (fun hc => ?_) <;> first | (exfalso; omega) | skip)
              | refine T_icmp_ne_t (tgt := 54) (pc := 47) k_M_walks_47 rfl (by decide) ?_
              | refine T_icmp_ne_f (tgt := 54) (pc1 := 50) (pc := 47) k_M_walks_47 rfl rfl (by decide) ?_
              | refine T_icmp_ne (tgt := 54) (pc1 := 50) (pc := 47) k_M_walks_47 rfl rfl (fun hc => ?_) (fun hc => ?_)
              | refine T_iconst (v := (nI 2)) (pc1 := 51) (pc := 50) k_M_walks_50 rfl (by decide) ?_
              | refine T_goto (tgt := 55) (pc := 51) k_M_walks_51 rfl ?_
              | refine T_iconst (v := (nI 0)) (pc1 := 55) (pc := 54) k_M_walks_54 rfl (by decide) ?_
              | refine T_istore (pc1 := 57) (pc := 55) k_M_walks_55 rfl (Nat.le_of_ble_eq_true rfl) ?_
              | refine T_iload (pc1 := 59) (pc := 57) k_M_walks_57 rfl rfl ?_
              | (with_reducible refine T_if_neN (tgt := 177) (pc1 := 62) (pc := 59) k_M_walks_59 (by decide) (by decide) (by omega) (fun hc => ?_) (fun hc => ?_) <;> first | (exfalso; omega) | skip)
              | refine T_if_ne_t (tgt := 177) (pc := 59) k_M_walks_59 rfl (by decide) ?_
              | refine T_if_ne_f (tgt := 177) (pc1 := 62) (pc := 59) k_M_walks_59 rfl rfl (by decide) ?_
              | refine T_if_ne (tgt := 177) (pc1 := 62) (pc := 59) k_M_walks_59 rfl rfl (fun hc => ?_) (fun hc => ?_)
              | refine T_aload_n (pc1 := 63) (pc := 62) k_M_walks_62 rfl rfl ?_
              | refine T_aload_nN (pc1 := 63) (pc := 62) k_M_walks_62 rfl rfl ?_
              | refine T_getR (pc1 := 66) (pc := 63) k_M_walks_63 rfl f_M_9 rfl (by first | exact ga G (by decide) rfl | assumption) (by first | exact gr G (by decide) rfl | assumption) ?_
              | refine T_bipush (v := (nI 96)) (pc1 := 68) (pc := 66) k_M_walks_66 rfl (by decide) ?_
              | refine T_iload (pc1 := 70) (pc := 68) k_M_walks_68 rfl rfl ?_
              | with_reducible refine T_iaddN (pc1 := 71) (pc := 70) k_M_walks_70 (by decide) ?_
              | refine T_iadd (pc1 := 71) (pc := 70) k_M_walks_70 rfl ?_
              | refine T_iload (pc1 := 73) (pc := 71) k_M_walks_71 rfl rfl ?_
              | refine T_iastN (pc1 := 74) (pc := 73) k_M_walks_73 rfl (by first | exact ga G (by decide) rfl | assumption) (by omega) (by omega) ?_
              | refine T_iincN (b := 1) (pc1 := 77) (pc := 74) k_M_walks_74 rfl rfl (by decide) ?_
              | refine T_iinc (v := (nI 1)) (pc1 := 77) (pc := 74) k_M_walks_74 rfl rfl (by decide) ?_
              | refine T_aload_n (pc1 := 78) (pc := 77) k_M_walks_77 rfl rfl ?_
              | refine T_aload_nN (pc1 := 78) (pc := 77) k_M_walks_77 rfl rfl ?_
              | refine T_iload (pc1 := 80) (pc := 78) k_M_walks_78 rfl rfl ?_
              | (refine T_cV (As := [_]) (d1 := 3) (pc1 := 83) (pc := 80) k_M_walks_80 rfl (by decide) (Nat.le_of_ble_eq_true rfl) rfl o_M_isBarred l_M_146 rfl (by first | exact ga G (by decide) rfl | assumption) rfl (c_M_isBarred G (by assumption) (by assumption) (by assumption) (fun hb1 => ?_) (fun hb1 => ?_)) <;> try dsimp only [psh])
              | (with_reducible refine T_if_eqN (tgt := 101) (pc1 := 86) (pc := 83) k_M_walks_83 (by decide) (by decide) (by omega) (fun hc => ?_) (fun hc => ?_) <;> first | (exfalso; omega) | skip)
              | refine T_if_eq_t (tgt := 101) (pc := 83) k_M_walks_83 rfl (by decide) ?_
              | refine T_if_eq_f (tgt := 101) (pc1 := 86) (pc := 83) k_M_walks_83 rfl rfl (by decide) ?_
              | refine T_if_eq (tgt := 101) (pc1 := 86) (pc := 83) k_M_walks_83 rfl rfl (fun hc => ?_) (fun hc => ?_)
              | refine T_iload (pc1 := 88) (pc := 86) k_M_walks_86 rfl rfl ?_
              | refine T_iconst (v := (nI 1)) (pc1 := 89) (pc := 88) k_M_walks_88 rfl (by decide) ?_
              | refine T_iload (pc1 := 91) (pc := 89) k_M_walks_89 rfl rfl ?_
              | refine T_ishl (pc1 := 92) (pc := 91) k_M_walks_91 rfl ?_
              | refine T_ior (pc1 := 93) (pc := 92) k_M_walks_92 rfl ?_
              | refine T_istore (pc1 := 95) (pc := 93) k_M_walks_93 rfl (Nat.le_of_ble_eq_true rfl) ?_
              | refine T_iincN (b := 1) (pc1 := 98) (pc := 95) k_M_walks_95 rfl rfl (by decide) ?_
              | refine T_iinc (v := (nI 1)) (pc1 := 98) (pc := 95) k_M_walks_95 rfl rfl (by decide) ?_
              | refine T_goto (tgt := 177) (pc := 98) k_M_walks_98 rfl ?_
              | refine T_aload_n (pc1 := 102) (pc := 101) k_M_walks_101 rfl rfl ?_
              | refine T_aload_nN (pc1 := 102) (pc := 101) k_M_walks_101 rfl rfl ?_
              | refine T_iload (pc1 := 104) (pc := 102) k_M_walks_102 rfl rfl ?_
              | (refine T_cV (As := [_]) (d1 := 4) (pc1 := 107) (pc := 104) k_M_walks_104 rfl (by decide) (Nat.le_of_ble_eq_true rfl) rfl o_M_takes l_M_143 rfl (by first | exact ga G (by decide) rfl | assumption) rfl (c_M_takes G (by assumption) (by assumption) (by assumption) (fun J hJ => ?_)) <;> try dsimp only [psh])
              | refine T_istore (pc1 := 109) (pc := 107) k_M_walks_107 rfl (Nat.le_of_ble_eq_true rfl) ?_
              | refine T_iload (pc1 := 111) (pc := 109) k_M_walks_109 rfl rfl ?_
              | refine T_iload (pc1 := 113) (pc := 111) k_M_walks_111 rfl rfl ?_
              | with_reducible refine T_iaddN (pc1 := 114) (pc := 113) k_M_walks_113 (by decide) ?_
              | refine T_iadd (pc1 := 114) (pc := 113) k_M_walks_113 rfl ?_
              | refine T_istore (pc1 := 116) (pc := 114) k_M_walks_114 rfl (Nat.le_of_ble_eq_true rfl) ?_
              | refine T_aload_n (pc1 := 117) (pc := 116) k_M_walks_116 rfl rfl ?_
              | refine T_aload_nN (pc1 := 117) (pc := 116) k_M_walks_116 rfl rfl ?_
              | refine T_getR (pc1 := 120) (pc := 117) k_M_walks_117 rfl f_M_9 rfl (by first | exact ga G (by decide) rfl | assumption) (by first | exact gr G (by decide) rfl | assumption) ?_
              | refine T_bipush (v := (nI 12)) (pc1 := 122) (pc := 120) k_M_walks_120 rfl (by decide) ?_
              | refine T_bipush (v := (nI 6)) (pc1 := 124) (pc := 122) k_M_walks_122 rfl (by decide) ?_
              | refine T_iload (pc1 := 126) (pc := 124) k_M_walks_124 rfl rfl ?_
              | with_reducible refine T_imulN (pc1 := 127) (pc := 126) k_M_walks_126 (by decide) ?_
              | refine T_imul (pc1 := 127) (pc := 126) k_M_walks_126 rfl ?_
              | with_reducible refine T_iaddN (pc1 := 128) (pc := 127) k_M_walks_127 (by decide) ?_
              | refine T_iadd (pc1 := 128) (pc := 127) k_M_walks_127 rfl ?_
              | refine T_iconst (v := (nI 5)) (pc1 := 129) (pc := 128) k_M_walks_128 rfl (by decide) ?_
              | with_reducible refine T_iaddN (pc1 := 130) (pc := 129) k_M_walks_129 (by decide) ?_
              | refine T_iadd (pc1 := 130) (pc := 129) k_M_walks_129 rfl ?_
              | refine T_sipush (v := (nI 999)) (pc1 := 133) (pc := 130) k_M_walks_130 rfl (by decide) ?_
              | refine T_iload (pc1 := 135) (pc := 133) k_M_walks_133 rfl rfl ?_
              | refine T_mminV (pc1 := 138) (pc := 135) k_M_walks_135 rfl l_M_82 (by decide) (Nat.le_of_ble_eq_true rfl) (by with_reducible rfl) (by with_reducible rfl) (by omega) (by omega) ?_
              | refine T_mmin (pc1 := 138) (pc := 135) k_M_walks_135 rfl l_M_82 (by decide) (Nat.le_of_ble_eq_true rfl) ?_
              | refine T_iastN (pc1 := 139) (pc := 138) k_M_walks_138 rfl (by first | exact ga G (by decide) rfl | assumption) (by omega) (by omega) ?_
              | refine T_aload_n (pc1 := 140) (pc := 139) k_M_walks_139 rfl rfl ?_
              | refine T_aload_nN (pc1 := 140) (pc := 139) k_M_walks_139 rfl rfl ?_
              | refine T_getR (pc1 := 143) (pc := 140) k_M_walks_140 rfl f_M_9 rfl (by first | exact ga G (by decide) rfl | assumption) (by first | exact gr G (by decide) rfl | assumption) ?_
              | refine T_bipush (v := (nI 12)) (pc1 := 145) (pc := 143) k_M_walks_143 rfl (by decide) ?_
              | refine T_bipush (v := (nI 6)) (pc1 := 147) (pc := 145) k_M_walks_145 rfl (by decide) ?_
              | refine T_iload (pc1 := 149) (pc := 147) k_M_walks_147 rfl rfl ?_
              | with_reducible refine T_imulN (pc1 := 150) (pc := 149) k_M_walks_149 (by decide) ?_
              | refine T_imul (pc1 := 150) (pc := 149) k_M_walks_149 rfl ?_
              | with_reducible refine T_iaddN (pc1 := 151) (pc := 150) k_M_walks_150 (by decide) ?_
              | refine T_iadd (pc1 := 151) (pc := 150) k_M_walks_150 rfl ?_
              | refine T_iconst (v := (nI 4)) (pc1 := 152) (pc := 151) k_M_walks_151 rfl (by decide) ?_
              | with_reducible refine T_iaddN (pc1 := 153) (pc := 152) k_M_walks_152 (by decide) ?_
              | refine T_iadd (pc1 := 153) (pc := 152) k_M_walks_152 rfl ?_
              | refine T_sipush (v := (nI 999)) (pc1 := 156) (pc := 153) k_M_walks_153 rfl (by decide) ?_
              | refine T_aload_n (pc1 := 157) (pc := 156) k_M_walks_156 rfl rfl ?_
              | refine T_aload_nN (pc1 := 157) (pc := 156) k_M_walks_156 rfl rfl ?_
              | refine T_iload (pc1 := 159) (pc := 157) k_M_walks_157 rfl rfl ?_
              | refine T_iconst (v := (nI 4)) (pc1 := 160) (pc := 159) k_M_walks_159 rfl (by decide) ?_
              | (refine T_cV (As := [_, _]) (d1 := 1) (pc1 := 163) (pc := 160) k_M_walks_160 rfl (by decide) (Nat.le_of_ble_eq_true rfl) rfl o_M_bitIs l_M_124 rfl (by first | exact ga G (by decide) rfl | assumption) rfl (c_M_bitN G (by assumption) (by omega) (by omega) (by first | assumption | rfl) ?_) <;> try dsimp only [psh])
              | refine T_iconst (v := (nI 1)) (pc1 := 164) (pc := 163) k_M_walks_163 rfl (by decide) ?_
              | with_reducible refine T_iaddN (pc1 := 165) (pc := 164) k_M_walks_164 (by decide) ?_
              | refine T_iadd (pc1 := 165) (pc := 164) k_M_walks_164 rfl ?_
              | refine T_mminV (pc1 := 168) (pc := 165) k_M_walks_165 rfl l_M_82 (by decide) (Nat.le_of_ble_eq_true rfl) (by with_reducible rfl) (by with_reducible rfl) (by omega) (by omega) ?_
              | refine T_mmin (pc1 := 168) (pc := 165) k_M_walks_165 rfl l_M_82 (by decide) (Nat.le_of_ble_eq_true rfl) ?_
              | refine T_iastN (pc1 := 169) (pc := 168) k_M_walks_168 rfl (by first | exact ga G (by decide) rfl | assumption) (by omega) (by omega) ?_
              | refine T_aload_n (pc1 := 170) (pc := 169) k_M_walks_169 rfl rfl ?_
              | refine T_aload_nN (pc1 := 170) (pc := 169) k_M_walks_169 rfl rfl ?_
              | refine T_iload (pc1 := 172) (pc := 170) k_M_walks_170 rfl rfl ?_
              | refine T_iload_n (pc1 := 173) (pc := 172) k_M_walks_172 rfl rfl ?_
              | refine T_istore_n (pc1 := 177) (pc := 176) k_M_walks_176 rfl (Nat.le_of_ble_eq_true rfl) ?_
              | refine T_goto (tgt := 14) (pc := 177) k_M_walks_177 rfl ?_
              | refine T_getR (pc1 := 184) (pc := 181) k_M_walks_181 rfl f_M_9 rfl (by first | exact ga G (by decide) rfl | assumption) (by first | exact gr G (by decide) rfl | assumption) ?_
              | refine T_bipush (v := (nI 7)) (pc1 := 186) (pc := 184) k_M_walks_184 rfl (by decide) ?_
              | refine T_iconst (v := (nI 1)) (pc1 := 187) (pc := 186) k_M_walks_186 rfl (by decide) ?_
              | refine T_iastN (pc1 := 188) (pc := 187) k_M_walks_187 rfl (by first | exact ga G (by decide) rfl | assumption) (by omega) (by omega) ?_
              | refine T_aload_n (pc1 := 189) (pc := 188) k_M_walks_188 rfl rfl ?_
              | refine T_aload_nN (pc1 := 189) (pc := 188) k_M_walks_188 rfl rfl ?_
              | refine T_getR (pc1 := 192) (pc := 189) k_M_walks_189 rfl f_M_9 rfl (by first | exact ga G (by decide) rfl | assumption) (by first | exact gr G (by decide) rfl | assumption) ?_
              | refine T_bipush (v := (nI 8)) (pc1 := 194) (pc := 192) k_M_walks_192 rfl (by decide) ?_
              | refine T_iload (pc1 := 196) (pc := 194) k_M_walks_194 rfl rfl ?_
              | refine T_iastN (pc1 := 197) (pc := 196) k_M_walks_196 rfl (by first | exact ga G (by decide) rfl | assumption) (by omega) (by omega) ?_
              | refine T_aload_n (pc1 := 198) (pc := 197) k_M_walks_197 rfl rfl ?_
              | refine T_aload_nN (pc1 := 198) (pc := 197) k_M_walks_197 rfl rfl ?_
              | refine T_getR (pc1 := 201) (pc := 198) k_M_walks_198 rfl f_M_9 rfl (by first | exact ga G (by decide) rfl | assumption) (by first | exact gr G (by decide) rfl | assumption) ?_
              | refine T_bipush (v := (nI 9)) (pc1 := 203) (pc := 201) k_M_walks_201 rfl (by decide) ?_
              | refine T_iload (pc1 := 205) (pc := 203) k_M_walks_203 rfl rfl ?_
              | refine T_iastN (pc1 := 206) (pc := 205) k_M_walks_205 rfl (by first | exact ga G (by decide) rfl | assumption) (by omega) (by omega) ?_
              | refine T_aload_n (pc1 := 207) (pc := 206) k_M_walks_206 rfl rfl ?_
              | refine T_aload_nN (pc1 := 207) (pc := 206) k_M_walks_206 rfl rfl ?_
              | refine T_getR (pc1 := 210) (pc := 207) k_M_walks_207 rfl f_M_9 rfl (by first | exact ga G (by decide) rfl | assumption) (by first | exact gr G (by decide) rfl | assumption) ?_
              | refine T_bipush (v := (nI 10)) (pc1 := 212) (pc := 210) k_M_walks_210 rfl (by decide) ?_
              | refine T_iload_n (pc1 := 213) (pc := 212) k_M_walks_212 rfl rfl ?_
              | refine T_iastN (pc1 := 214) (pc := 213) k_M_walks_213 rfl (by first | exact ga G (by decide) rfl | assumption) (by omega) (by omega) ?_
              | refine T_aload_n (pc1 := 215) (pc := 214) k_M_walks_214 rfl rfl ?_
              | refine T_aload_nN (pc1 := 215) (pc := 214) k_M_walks_214 rfl rfl ?_
              | refine T_getR (pc1 := 218) (pc := 215) k_M_walks_215 rfl f_M_9 rfl (by first | exact ga G (by decide) rfl | assumption) (by first | exact gr G (by decide) rfl | assumption) ?_
              | refine T_bipush (v := (nI 11)) (pc1 := 220) (pc := 218) k_M_walks_218 rfl (by decide) ?_
              | refine T_iload (pc1 := 222) (pc := 220) k_M_walks_220 rfl rfl ?_
              | refine T_iastN (pc1 := 223) (pc := 222) k_M_walks_222 rfl (by first | exact ga G (by decide) rfl | assumption) (by omega) (by omega) ?_
              | refine T_aload_n (pc1 := 224) (pc := 223) k_M_walks_223 rfl rfl ?_
              | refine T_aload_nN (pc1 := 224) (pc := 223) k_M_walks_223 rfl rfl ?_
              | refine T_getR (pc1 := 227) (pc := 224) k_M_walks_224 rfl f_M_9 rfl (by first | exact ga G (by decide) rfl | assumption) (by first | exact gr G (by decide) rfl | assumption) ?_
              | refine T_iconst (v := (nI 1)) (pc1 := 228) (pc := 227) k_M_walks_227 rfl (by decide) ?_
              | refine T_dup2 (pc1 := 229) (pc := 228) k_M_walks_228 rfl rfl rfl ?_
              | refine T_ialdN (pc1 := 230) (pc := 229) k_M_walks_229 rfl (by first | exact ga G (by decide) rfl | assumption) (by omega) (by omega) (by first | assumption | (simp (disch := omega) only [pI_eq, pI_row, pI_col, va_up_self, va_up_ne, ne_eq, not_false_eq_true, hJN] <;> rfl) | rfl) ?_
              | refine T_iald (pc1 := 230) (pc := 229) k_M_walks_229 rfl (by first | exact ga G (by decide) rfl | assumption) (by assumption) ?_
              | refine T_iconst (v := (nI 1)) (pc1 := 231) (pc := 230) k_M_walks_230 rfl (by decide) ?_
              | with_reducible refine T_iaddN (pc1 := 232) (pc := 231) k_M_walks_231 (by decide) ?_
              | refine T_iadd (pc1 := 232) (pc := 231) k_M_walks_231 rfl ?_
              | refine T_iastN (pc1 := 233) (pc := 232) k_M_walks_232 rfl (by first | exact ga G (by decide) rfl | assumption) (by omega) (by omega) ?_
              | refine T_aload_n (pc1 := 234) (pc := 233) k_M_walks_233 rfl rfl ?_
              | refine T_aload_nN (pc1 := 234) (pc := 233) k_M_walks_233 rfl rfl ?_
              | refine T_getR (pc1 := 237) (pc := 234) k_M_walks_234 rfl f_M_9 rfl (by first | exact ga G (by decide) rfl | assumption) (by first | exact gr G (by decide) rfl | assumption) ?_
              | refine T_iconst (v := (nI 2)) (pc1 := 238) (pc := 237) k_M_walks_237 rfl (by decide) ?_
              | refine T_dup2 (pc1 := 239) (pc := 238) k_M_walks_238 rfl rfl rfl ?_
              | refine T_ialdN (pc1 := 240) (pc := 239) k_M_walks_239 rfl (by first | exact ga G (by decide) rfl | assumption) (by omega) (by omega) (by first | assumption | (simp (disch := omega) only [pI_eq, pI_row, pI_col, va_up_self, va_up_ne, ne_eq, not_false_eq_true, hJN] <;> rfl) | rfl) ?_
              | refine T_iald (pc1 := 240) (pc := 239) k_M_walks_239 rfl (by first | exact ga G (by decide) rfl | assumption) (by assumption) ?_
              | refine T_iload (pc1 := 242) (pc := 240) k_M_walks_240 rfl rfl ?_
              | with_reducible refine T_iaddN (pc1 := 243) (pc := 242) k_M_walks_242 (by decide) ?_
              | refine T_iadd (pc1 := 243) (pc := 242) k_M_walks_242 rfl ?_
              | refine T_iastN (pc1 := 244) (pc := 243) k_M_walks_243 rfl (by first | exact ga G (by decide) rfl | assumption) (by omega) (by omega) ?_
              | refine T_iload (pc1 := 246) (pc := 244) k_M_walks_244 rfl rfl ?_
              | refine T_retI (pc := 246) k_M_walks_246 rfl (by first | rfl | decide | assumption) ?_)
            exact fin _ _ _ _ _ _ J1 _ _ hJ1x hJ1N hw
          · rw [if_neg h60] at hw
            have ok1 : okL (va_up N (96 + tr) (nI b)) n tn := okL_up ok (by omega)
            have ag : agr N (va_up N (96 + tr) (nI b)) b := agr_up (by omega) (by omega)
            have hJ2N : pI J1 102 (96 + tr) (nI b) 102 = va_up N (96 + tr) (nI b) := upI hJ1N
            have hJ2x : eqx [102, 105, 106, 112, 113] I (pI J1 102 (96 + tr) (nI b)) := eqx_pI hJ1x _ (by decide)
            repeat' (first
              | refine T_iload_n (pc1 := 1) (pc := 0) k_M_walks_0 rfl rfl ?_
              | refine T_istore_n (pc1 := 2) (pc := 1) k_M_walks_1 rfl (Nat.le_of_ble_eq_true rfl) ?_
              | refine T_iconst (v := (nI 0)) (pc1 := 3) (pc := 2) k_M_walks_2 rfl (by decide) ?_
              | refine T_istore (pc1 := 5) (pc := 3) k_M_walks_3 rfl (Nat.le_of_ble_eq_true rfl) ?_
              | refine T_iconst (v := (nI 0)) (pc1 := 6) (pc := 5) k_M_walks_5 rfl (by decide) ?_
              | refine T_istore (pc1 := 8) (pc := 6) k_M_walks_6 rfl (Nat.le_of_ble_eq_true rfl) ?_
              | refine T_iconst (v := (nI 0)) (pc1 := 9) (pc := 8) k_M_walks_8 rfl (by decide) ?_
              | refine T_istore (pc1 := 11) (pc := 9) k_M_walks_9 rfl (Nat.le_of_ble_eq_true rfl) ?_
              | refine T_iconst (v := (nI 0)) (pc1 := 12) (pc := 11) k_M_walks_11 rfl (by decide) ?_
              | refine T_istore (pc1 := 14) (pc := 12) k_M_walks_12 rfl (Nat.le_of_ble_eq_true rfl) ?_
              | refine T_iload_n (pc1 := 16) (pc := 15) k_M_walks_15 rfl rfl ?_
              | (with_reducible refine T_icmp_eqN (tgt := 180) (pc1 := 19) (pc := 16) k_M_walks_16 (by decide) (by decide) (by omega) (by omega) (fun hc => ?_) (fun hc => ?_) <;> first | (exfalso; omega) | skip)
              | refine T_icmp_eq_t (tgt := 180) (pc := 16) k_M_walks_16 rfl (by decide) ?_
              | refine T_icmp_eq_f (tgt := 180) (pc1 := 19) (pc := 16) k_M_walks_16 rfl rfl (by decide) ?_
              | refine T_icmp_eq (tgt := 180) (pc1 := 19) (pc := 16) k_M_walks_16 rfl rfl (fun hc => ?_) (fun hc => ?_)
              | refine T_iload (pc1 := 21) (pc := 19) k_M_walks_19 rfl rfl ?_
              | (with_reducible refine T_if_neN (tgt := 180) (pc1 := 24) (pc := 21) k_M_walks_21 (by decide) (by decide) (by omega) (fun hc => ?_) (fun hc => ?_) <;> first | (exfalso; omega) | skip)
              | refine T_if_ne_t (tgt := 180) (pc := 21) k_M_walks_21 rfl (by decide) ?_
              | refine T_if_ne_f (tgt := 180) (pc1 := 24) (pc := 21) k_M_walks_21 rfl rfl (by decide) ?_
              | refine T_if_ne (tgt := 180) (pc1 := 24) (pc := 21) k_M_walks_21 rfl rfl (fun hc => ?_) (fun hc => ?_)
              | refine T_aload_n (pc1 := 25) (pc := 24) k_M_walks_24 rfl rfl ?_
              | refine T_aload_nN (pc1 := 25) (pc := 24) k_M_walks_24 rfl rfl ?_
              | refine T_iload_n (pc1 := 26) (pc := 25) k_M_walks_25 rfl rfl ?_
              | refine T_iload_n (pc1 := 27) (pc := 26) k_M_walks_26 rfl rfl ?_
              | refine T_iload (pc1 := 29) (pc := 27) k_M_walks_27 rfl rfl ?_
              | (refine T_cV (As := [_, _, _]) (d1 := 4) (pc1 := 32) (pc := 29) k_M_walks_29 rfl (by decide) (Nat.le_of_ble_eq_true rfl) rfl o_M_firstBit l_M_171 rfl (by first | exact ga G (by decide) rfl | assumption) rfl (c_M_firstBit G hJN ok hF ha ht (fun J1 hJ1 => ?_)) <;> try dsimp only [psh])
              | refine T_istore (pc1 := 34) (pc := 32) k_M_walks_32 rfl (Nat.le_of_ble_eq_true rfl) ?_
              | refine T_iload (pc1 := 36) (pc := 34) k_M_walks_34 rfl rfl ?_
              | (with_reducible refine T_if_geN (tgt := 43) (pc1 := 39) (pc := 36) k_M_walks_36 (by decide) (by decide) (by omega) ?_ <;> first | (exfalso; omega) | skip)
              | refine T_if_ge_t (tgt := 43) (pc := 36) k_M_walks_36 rfl (by decide) ?_
              | refine T_if_ge_f (tgt := 43) (pc1 := 39) (pc := 36) k_M_walks_36 rfl rfl (by decide) ?_
              | refine T_if_ge (tgt := 43) (pc1 := 39) (pc := 36) k_M_walks_36 rfl rfl (fun hc => ?_) (fun hc => ?_)
              | refine T_iconst (v := (nI 1)) (pc1 := 40) (pc := 39) k_M_walks_39 rfl (by decide) ?_
              | refine T_goto (tgt := 55) (pc := 40) k_M_walks_40 rfl ?_
              | refine T_iload (pc1 := 45) (pc := 43) k_M_walks_43 rfl rfl ?_
              | refine T_bipush (v := (nI 60)) (pc1 := 47) (pc := 45) k_M_walks_45 rfl (by decide) ?_
              | (with_reducible refine T_icmp_neN (tgt := 54) (pc1 := 50) (pc := 47) k_M_walks_47 (by decide) (by decide) (by omega) (by omega) (fun hc => ?_) (fun hc => ?_) <;> first | (exfalso; omega) | skip)
              | refine T_icmp_ne_t (tgt := 54) (pc := 47) k_M_walks_47 rfl (by decide) ?_
              | refine T_icmp_ne_f (tgt := 54) (pc1 := 50) (pc := 47) k_M_walks_47 rfl rfl (by decide) ?_
              | refine T_icmp_ne (tgt := 54) (pc1 := 50) (pc := 47) k_M_walks_47 rfl rfl (fun hc => ?_) (fun hc => ?_)
              | refine T_iconst (v := (nI 2)) (pc1 := 51) (pc := 50) k_M_walks_50 rfl (by decide) ?_
              | refine T_goto (tgt := 55) (pc := 51) k_M_walks_51 rfl ?_
              | refine T_iconst (v := (nI 0)) (pc1 := 55) (pc := 54) k_M_walks_54 rfl (by decide) ?_
              | refine T_istore (pc1 := 57) (pc := 55) k_M_walks_55 rfl (Nat.le_of_ble_eq_true rfl) ?_
              | refine T_iload (pc1 := 59) (pc := 57) k_M_walks_57 rfl rfl ?_
              | (with_reducible refine T_if_neN (tgt := 177) (pc1 := 62) (pc := 59) k_M_walks_59 (by decide) (by decide) (by omega) (fun hc => ?_) (fun hc => ?_) <;> first | (exfalso; omega) | skip)
              | refine T_if_ne_t (tgt := 177) (pc := 59) k_M_walks_59 rfl (by decide) ?_
              | refine T_if_ne_f (tgt := 177) (pc1 := 62) (pc := 59) k_M_walks_59 rfl rfl (by decide) ?_
              | refine T_if_ne (tgt := 177) (pc1 := 62) (pc := 59) k_M_walks_59 rfl rfl (fun hc => ?_) (fun hc => ?_)
              | refine T_aload_n (pc1 := 63) (pc := 62) k_M_walks_62 rfl rfl ?_
              | refine T_aload_nN (pc1 := 63) (pc := 62) k_M_walks_62 rfl rfl ?_
              | refine T_getR (pc1 := 66) (pc := 63) k_M_walks_63 rfl f_M_9 rfl (by first | exact ga G (by decide) rfl | assumption) (by first | exact gr G (by decide) rfl | assumption) ?_
              | refine T_bipush (v := (nI 96)) (pc1 := 68) (pc := 66) k_M_walks_66 rfl (by decide) ?_
              | refine T_iload (pc1 := 70) (pc := 68) k_M_walks_68 rfl rfl ?_
              | with_reducible refine T_iaddN (pc1 := 71) (pc := 70) k_M_walks_70 (by decide) ?_
              | refine T_iadd (pc1 := 71) (pc := 70) k_M_walks_70 rfl ?_
              | refine T_iload (pc1 := 73) (pc := 71) k_M_walks_71 rfl rfl ?_
              | refine T_iastN (pc1 := 74) (pc := 73) k_M_walks_73 rfl (by first | exact ga G (by decide) rfl | assumption) (by omega) (by omega) ?_
              | refine T_iincN (b := 1) (pc1 := 77) (pc := 74) k_M_walks_74 rfl rfl (by decide) ?_
              | refine T_iinc (v := (nI 1)) (pc1 := 77) (pc := 74) k_M_walks_74 rfl rfl (by decide) ?_
              | refine T_aload_n (pc1 := 78) (pc := 77) k_M_walks_77 rfl rfl ?_
              | refine T_aload_nN (pc1 := 78) (pc := 77) k_M_walks_77 rfl rfl ?_
              | refine T_iload (pc1 := 80) (pc := 78) k_M_walks_78 rfl rfl ?_
              | (with_reducible refine T_if_eqN (tgt := 101) (pc1 := 86) (pc := 83) k_M_walks_83 (by decide) (by decide) (by omega) (fun hc => ?_) (fun hc => ?_) <;> first | (exfalso; omega) | skip)
              | refine T_if_eq_t (tgt := 101) (pc := 83) k_M_walks_83 rfl (by decide) ?_
              | refine T_if_eq_f (tgt := 101) (pc1 := 86) (pc := 83) k_M_walks_83 rfl rfl (by decide) ?_
              | refine T_if_eq (tgt := 101) (pc1 := 86) (pc := 83) k_M_walks_83 rfl rfl (fun hc => ?_) (fun hc => ?_)
              | refine T_iload (pc1 := 88) (pc := 86) k_M_walks_86 rfl rfl ?_
              | refine T_iconst (v := (nI 1)) (pc1 := 89) (pc := 88) k_M_walks_88 rfl (by decide) ?_
              | refine T_iload (pc1 := 91) (pc := 89) k_M_walks_89 rfl rfl ?_
              | refine T_ishl (pc1 := 92) (pc := 91) k_M_walks_91 rfl ?_
              | refine T_ior (pc1 := 93) (pc := 92) k_M_walks_92 rfl ?_
              | refine T_istore (pc1 := 95) (pc := 93) k_M_walks_93 rfl (Nat.le_of_ble_eq_true rfl) ?_
              | refine T_iincN (b := 1) (pc1 := 98) (pc := 95) k_M_walks_95 rfl rfl (by decide) ?_
              | refine T_iinc (v := (nI 1)) (pc1 := 98) (pc := 95) k_M_walks_95 rfl rfl (by decide) ?_
              | refine T_goto (tgt := 177) (pc := 98) k_M_walks_98 rfl ?_
              | refine T_aload_n (pc1 := 102) (pc := 101) k_M_walks_101 rfl rfl ?_
              | refine T_aload_nN (pc1 := 102) (pc := 101) k_M_walks_101 rfl rfl ?_
              | refine T_iload (pc1 := 104) (pc := 102) k_M_walks_102 rfl rfl ?_
              | (refine T_cV (As := [_]) (d1 := 4) (pc1 := 107) (pc := 104) k_M_walks_104 rfl (by decide) (Nat.le_of_ble_eq_true rfl) rfl o_M_takes l_M_143 rfl (by first | exact ga G (by decide) rfl | assumption) rfl (c_M_takes G (by assumption) (by assumption) (by assumption) (fun J hJ => ?_)) <;> try dsimp only [psh])
              | refine T_istore (pc1 := 109) (pc := 107) k_M_walks_107 rfl (Nat.le_of_ble_eq_true rfl) ?_
              | refine T_iload (pc1 := 111) (pc := 109) k_M_walks_109 rfl rfl ?_
              | refine T_iload (pc1 := 113) (pc := 111) k_M_walks_111 rfl rfl ?_
              | with_reducible refine T_iaddN (pc1 := 114) (pc := 113) k_M_walks_113 (by decide) ?_
              | refine T_iadd (pc1 := 114) (pc := 113) k_M_walks_113 rfl ?_
              | refine T_istore (pc1 := 116) (pc := 114) k_M_walks_114 rfl (Nat.le_of_ble_eq_true rfl) ?_
              | refine T_aload_n (pc1 := 117) (pc := 116) k_M_walks_116 rfl rfl ?_
              | refine T_aload_nN (pc1 := 117) (pc := 116) k_M_walks_116 rfl rfl ?_
              | refine T_getR (pc1 := 120) (pc := 117) k_M_walks_117 rfl f_M_9 rfl (by first | exact ga G (by decide) rfl | assumption) (by first | exact gr G (by decide) rfl | assumption) ?_
              | refine T_bipush (v := (nI 12)) (pc1 := 122) (pc := 120) k_M_walks_120 rfl (by decide) ?_
              | refine T_bipush (v := (nI 6)) (pc1 := 124) (pc := 122) k_M_walks_122 rfl (by decide) ?_
              | refine T_iload (pc1 := 126) (pc := 124) k_M_walks_124 rfl rfl ?_
              | with_reducible refine T_imulN (pc1 := 127) (pc := 126) k_M_walks_126 (by decide) ?_
              | refine T_imul (pc1 := 127) (pc := 126) k_M_walks_126 rfl ?_
              | with_reducible refine T_iaddN (pc1 := 128) (pc := 127) k_M_walks_127 (by decide) ?_
              | refine T_iadd (pc1 := 128) (pc := 127) k_M_walks_127 rfl ?_
              | refine T_iconst (v := (nI 5)) (pc1 := 129) (pc := 128) k_M_walks_128 rfl (by decide) ?_
              | with_reducible refine T_iaddN (pc1 := 130) (pc := 129) k_M_walks_129 (by decide) ?_
              | refine T_iadd (pc1 := 130) (pc := 129) k_M_walks_129 rfl ?_
              | refine T_sipush (v := (nI 999)) (pc1 := 133) (pc := 130) k_M_walks_130 rfl (by decide) ?_
              | refine T_iload (pc1 := 135) (pc := 133) k_M_walks_133 rfl rfl ?_
              | refine T_mminV (pc1 := 138) (pc := 135) k_M_walks_135 rfl l_M_82 (by decide) (Nat.le_of_ble_eq_true rfl) (by with_reducible rfl) (by with_reducible rfl) (by omega) (by omega) ?_
              | refine T_mmin (pc1 := 138) (pc := 135) k_M_walks_135 rfl l_M_82 (by decide) (Nat.le_of_ble_eq_true rfl) ?_
              | refine T_iastN (pc1 := 139) (pc := 138) k_M_walks_138 rfl (by first | exact ga G (by decide) rfl | assumption) (by omega) (by omega) ?_
              | refine T_aload_n (pc1 := 140) (pc := 139) k_M_walks_139 rfl rfl ?_
              | refine T_aload_nN (pc1 := 140) (pc := 139) k_M_walks_139 rfl rfl ?_
              | refine T_getR (pc1 := 143) (pc := 140) k_M_walks_140 rfl f_M_9 rfl (by first | exact ga G (by decide) rfl | assumption) (by first | exact gr G (by decide) rfl | assumption) ?_
              | refine T_bipush (v := (nI 12)) (pc1 := 145) (pc := 143) k_M_walks_143 rfl (by decide) ?_
              | refine T_bipush (v := (nI 6)) (pc1 := 147) (pc := 145) k_M_walks_145 rfl (by decide) ?_
              | refine T_iload (pc1 := 149) (pc := 147) k_M_walks_147 rfl rfl ?_
              | with_reducible refine T_imulN (pc1 := 150) (pc := 149) k_M_walks_149 (by decide) ?_
              | refine T_imul (pc1 := 150) (pc := 149) k_M_walks_149 rfl ?_
              | with_reducible refine T_iaddN (pc1 := 151) (pc := 150) k_M_walks_150 (by decide) ?_
              | refine T_iadd (pc1 := 151) (pc := 150) k_M_walks_150 rfl ?_
              | refine T_iconst (v := (nI 4)) (pc1 := 152) (pc := 151) k_M_walks_151 rfl (by decide) ?_
              | with_reducible refine T_iaddN (pc1 := 153) (pc := 152) k_M_walks_152 (by decide) ?_
              | refine T_iadd (pc1 := 153) (pc := 152) k_M_walks_152 rfl ?_
              | refine T_sipush (v := (nI 999)) (pc1 := 156) (pc := 153) k_M_walks_153 rfl (by decide) ?_
              | refine T_aload_n (pc1 := 157) (pc := 156) k_M_walks_156 rfl rfl ?_
              | refine T_aload_nN (pc1 := 157) (pc := 156) k_M_walks_156 rfl rfl ?_
              | refine T_iload (pc1 := 159) (pc := 157) k_M_walks_157 rfl rfl ?_
              | refine T_iconst (v := (nI 4)) (pc1 := 160) (pc := 159) k_M_walks_159 rfl (by decide) ?_
              | (refine T_cV (As := [_, _]) (d1 := 1) (pc1 := 163) (pc := 160) k_M_walks_160 rfl (by decide) (Nat.le_of_ble_eq_true rfl) rfl o_M_bitIs l_M_124 rfl (by first | exact ga G (by decide) rfl | assumption) rfl (c_M_bitN G (by assumption) (by omega) (by omega) (by first | assumption | rfl) ?_) <;> try dsimp only [psh])
              | refine T_iconst (v := (nI 1)) (pc1 := 164) (pc := 163) k_M_walks_163 rfl (by decide) ?_
              | with_reducible refine T_iaddN (pc1 := 165) (pc := 164) k_M_walks_164 (by decide) ?_
              | refine T_iadd (pc1 := 165) (pc := 164) k_M_walks_164 rfl ?_
              | refine T_mminV (pc1 := 168) (pc := 165) k_M_walks_165 rfl l_M_82 (by decide) (Nat.le_of_ble_eq_true rfl) (by with_reducible rfl) (by with_reducible rfl) (by omega) (by omega) ?_
              | refine T_mmin (pc1 := 168) (pc := 165) k_M_walks_165 rfl l_M_82 (by decide) (Nat.le_of_ble_eq_true rfl) ?_
              | refine T_iastN (pc1 := 169) (pc := 168) k_M_walks_168 rfl (by first | exact ga G (by decide) rfl | assumption) (by omega) (by omega) ?_
              | refine T_aload_n (pc1 := 170) (pc := 169) k_M_walks_169 rfl rfl ?_
              | refine T_aload_nN (pc1 := 170) (pc := 169) k_M_walks_169 rfl rfl ?_
              | refine T_iload (pc1 := 172) (pc := 170) k_M_walks_170 rfl rfl ?_
              | refine T_iload_n (pc1 := 173) (pc := 172) k_M_walks_172 rfl rfl ?_
              | refine T_istore_n (pc1 := 177) (pc := 176) k_M_walks_176 rfl (Nat.le_of_ble_eq_true rfl) ?_
              | refine T_goto (tgt := 14) (pc := 177) k_M_walks_177 rfl ?_
              | refine T_aload_n (pc1 := 181) (pc := 180) k_M_walks_180 rfl rfl ?_
              | refine T_aload_nN (pc1 := 181) (pc := 180) k_M_walks_180 rfl rfl ?_
              | refine T_getR (pc1 := 184) (pc := 181) k_M_walks_181 rfl f_M_9 rfl (by first | exact ga G (by decide) rfl | assumption) (by first | exact gr G (by decide) rfl | assumption) ?_
              | refine T_bipush (v := (nI 7)) (pc1 := 186) (pc := 184) k_M_walks_184 rfl (by decide) ?_
              | refine T_iconst (v := (nI 1)) (pc1 := 187) (pc := 186) k_M_walks_186 rfl (by decide) ?_
              | refine T_iastN (pc1 := 188) (pc := 187) k_M_walks_187 rfl (by first | exact ga G (by decide) rfl | assumption) (by omega) (by omega) ?_
              | refine T_aload_n (pc1 := 189) (pc := 188) k_M_walks_188 rfl rfl ?_
              | refine T_aload_nN (pc1 := 189) (pc := 188) k_M_walks_188 rfl rfl ?_
              | refine T_getR (pc1 := 192) (pc := 189) k_M_walks_189 rfl f_M_9 rfl (by first | exact ga G (by decide) rfl | assumption) (by first | exact gr G (by decide) rfl | assumption) ?_
              | refine T_bipush (v := (nI 8)) (pc1 := 194) (pc := 192) k_M_walks_192 rfl (by decide) ?_
              | refine T_iload (pc1 := 196) (pc := 194) k_M_walks_194 rfl rfl ?_
              | refine T_iastN (pc1 := 197) (pc := 196) k_M_walks_196 rfl (by first | exact ga G (by decide) rfl | assumption) (by omega) (by omega) ?_
              | refine T_aload_n (pc1 := 198) (pc := 197) k_M_walks_197 rfl rfl ?_
              | refine T_aload_nN (pc1 := 198) (pc := 197) k_M_walks_197 rfl rfl ?_
              | refine T_getR (pc1 := 201) (pc := 198) k_M_walks_198 rfl f_M_9 rfl (by first | exact ga G (by decide) rfl | assumption) (by first | exact gr G (by decide) rfl | assumption) ?_
              | refine T_bipush (v := (nI 9)) (pc1 := 203) (pc := 201) k_M_walks_201 rfl (by decide) ?_
              | refine T_iload (pc1 := 205) (pc := 203) k_M_walks_203 rfl rfl ?_
              | refine T_iastN (pc1 := 206) (pc := 205) k_M_walks_205 rfl (by first | exact ga G (by decide) rfl | assumption) (by omega) (by omega) ?_
              | refine T_aload_n (pc1 := 207) (pc := 206) k_M_walks_206 rfl rfl ?_
              | refine T_aload_nN (pc1 := 207) (pc := 206) k_M_walks_206 rfl rfl ?_
              | refine T_getR (pc1 := 210) (pc := 207) k_M_walks_207 rfl f_M_9 rfl (by first | exact ga G (by decide) rfl | assumption) (by first | exact gr G (by decide) rfl | assumption) ?_
              | refine T_bipush (v := (nI 10)) (pc1 := 212) (pc := 210) k_M_walks_210 rfl (by decide) ?_
              | refine T_iload_n (pc1 := 213) (pc := 212) k_M_walks_212 rfl rfl ?_
              | refine T_iastN (pc1 := 214) (pc := 213) k_M_walks_213 rfl (by first | exact ga G (by decide) rfl | assumption) (by omega) (by omega) ?_
              | refine T_aload_n (pc1 := 215) (pc := 214) k_M_walks_214 rfl rfl ?_
              | refine T_aload_nN (pc1 := 215) (pc := 214) k_M_walks_214 rfl rfl ?_
              | refine T_getR (pc1 := 218) (pc := 215) k_M_walks_215 rfl f_M_9 rfl (by first | exact ga G (by decide) rfl | assumption) (by first | exact gr G (by decide) rfl | assumption) ?_
              | refine T_bipush (v := (nI 11)) (pc1 := 220) (pc := 218) k_M_walks_218 rfl (by decide) ?_
              | refine T_iload (pc1 := 222) (pc := 220) k_M_walks_220 rfl rfl ?_
              | refine T_iastN (pc1 := 223) (pc := 222) k_M_walks_222 rfl (by first | exact ga G (by decide) rfl | assumption) (by omega) (by omega) ?_
              | refine T_aload_n (pc1 := 224) (pc := 223) k_M_walks_223 rfl rfl ?_
              | refine T_aload_nN (pc1 := 224) (pc := 223) k_M_walks_223 rfl rfl ?_
              | refine T_getR (pc1 := 227) (pc := 224) k_M_walks_224 rfl f_M_9 rfl (by first | exact ga G (by decide) rfl | assumption) (by first | exact gr G (by decide) rfl | assumption) ?_
              | refine T_iconst (v := (nI 1)) (pc1 := 228) (pc := 227) k_M_walks_227 rfl (by decide) ?_
              | refine T_dup2 (pc1 := 229) (pc := 228) k_M_walks_228 rfl rfl rfl ?_
              | refine T_ialdN (pc1 := 230) (pc := 229) k_M_walks_229 rfl (by first | exact ga G (by decide) rfl | assumption) (by omega) (by omega) (by first | assumption | (simp (disch := omega) only [pI_eq, pI_row, pI_col, va_up_self, va_up_ne, ne_eq, not_false_eq_true, hJN] <;> rfl) | rfl) ?_
              | refine T_iald (pc1 := 230) (pc := 229) k_M_walks_229 rfl (by first | exact ga G (by decide) rfl | assumption) (by assumption) ?_
              | refine T_iconst (v := (nI 1)) (pc1 := 231) (pc := 230) k_M_walks_230 rfl (by decide) ?_
              | with_reducible refine T_iaddN (pc1 := 232) (pc := 231) k_M_walks_231 (by decide) ?_
              | refine T_iadd (pc1 := 232) (pc := 231) k_M_walks_231 rfl ?_
              | refine T_iastN (pc1 := 233) (pc := 232) k_M_walks_232 rfl (by first | exact ga G (by decide) rfl | assumption) (by omega) (by omega) ?_
              | refine T_aload_n (pc1 := 234) (pc := 233) k_M_walks_233 rfl rfl ?_
              | refine T_aload_nN (pc1 := 234) (pc := 233) k_M_walks_233 rfl rfl ?_
              | refine T_getR (pc1 := 237) (pc := 234) k_M_walks_234 rfl f_M_9 rfl (by first | exact ga G (by decide) rfl | assumption) (by first | exact gr G (by decide) rfl | assumption) ?_
              | refine T_iconst (v := (nI 2)) (pc1 := 238) (pc := 237) k_M_walks_237 rfl (by decide) ?_
              | refine T_dup2 (pc1 := 239) (pc := 238) k_M_walks_238 rfl rfl rfl ?_
              | refine T_ialdN (pc1 := 240) (pc := 239) k_M_walks_239 rfl (by first | exact ga G (by decide) rfl | assumption) (by omega) (by omega) (by first | assumption | (simp (disch := omega) only [pI_eq, pI_row, pI_col, va_up_self, va_up_ne, ne_eq, not_false_eq_true, hJN] <;> rfl) | rfl) ?_
              | refine T_iald (pc1 := 240) (pc := 239) k_M_walks_239 rfl (by first | exact ga G (by decide) rfl | assumption) (by assumption) ?_
              | refine T_iload (pc1 := 242) (pc := 240) k_M_walks_240 rfl rfl ?_
              | with_reducible refine T_iaddN (pc1 := 243) (pc := 242) k_M_walks_242 (by decide) ?_
              | refine T_iadd (pc1 := 243) (pc := 242) k_M_walks_242 rfl ?_
              | refine T_iastN (pc1 := 244) (pc := 243) k_M_walks_243 rfl (by first | exact ga G (by decide) rfl | assumption) (by omega) (by omega) ?_
              | refine T_iload (pc1 := 246) (pc := 244) k_M_walks_244 rfl rfl ?_
              | refine T_retI (pc := 246) k_M_walks_246 rfl (by first | rfl | decide | assumption) ?_)
            generalize pI J1 102 (96 + tr) (nI b) = J2 at *
            (refine T_cV (As := [_]) (d1 := 3) (pc1 := 83) (pc := 80) k_M_walks_80 rfl (by decide) (Nat.le_of_ble_eq_true rfl) rfl o_M_isBarred l_M_146 rfl (by first | exact ga G (by decide) rfl | assumption) rfl (c_M_isBarred G hJ2N ok1 hbn (fun hbr => ?_) (fun hbr => ?_)) <;> try dsimp only [psh])
            · rw [brd_agr ag] at hbr
              rw [if_pos hbr] at hw
              repeat' (first
                | refine T_iload_n (pc1 := 1) (pc := 0) k_M_walks_0 rfl rfl ?_
                | refine T_istore_n (pc1 := 2) (pc := 1) k_M_walks_1 rfl (Nat.le_of_ble_eq_true rfl) ?_
                | refine T_iconst (v := (nI 0)) (pc1 := 3) (pc := 2) k_M_walks_2 rfl (by decide) ?_
                | refine T_istore (pc1 := 5) (pc := 3) k_M_walks_3 rfl (Nat.le_of_ble_eq_true rfl) ?_
                | refine T_iconst (v := (nI 0)) (pc1 := 6) (pc := 5) k_M_walks_5 rfl (by decide) ?_
                | refine T_istore (pc1 := 8) (pc := 6) k_M_walks_6 rfl (Nat.le_of_ble_eq_true rfl) ?_
                | refine T_iconst (v := (nI 0)) (pc1 := 9) (pc := 8) k_M_walks_8 rfl (by decide) ?_
                | refine T_istore (pc1 := 11) (pc := 9) k_M_walks_9 rfl (Nat.le_of_ble_eq_true rfl) ?_
                | refine T_iconst (v := (nI 0)) (pc1 := 12) (pc := 11) k_M_walks_11 rfl (by decide) ?_
                | refine T_istore (pc1 := 14) (pc := 12) k_M_walks_12 rfl (Nat.le_of_ble_eq_true rfl) ?_
                | refine T_iload_n (pc1 := 16) (pc := 15) k_M_walks_15 rfl rfl ?_
                | (with_reducible refine T_icmp_eqN (tgt := 180) (pc1 := 19) (pc := 16) k_M_walks_16 (by decide) (by decide) (by omega) (by omega) (fun hc => ?_) (fun hc => ?_) <;> first | (exfalso; omega) | skip)
                | refine T_icmp_eq_t (tgt := 180) (pc := 16) k_M_walks_16 rfl (by decide) ?_
                | refine T_icmp_eq_f (tgt := 180) (pc1 := 19) (pc := 16) k_M_walks_16 rfl rfl (by decide) ?_
                | refine T_icmp_eq (tgt := 180) (pc1 := 19) (pc := 16) k_M_walks_16 rfl rfl (fun hc => ?_) (fun hc => ?_)
                | refine T_iload (pc1 := 21) (pc := 19) k_M_walks_19 rfl rfl ?_
                | (with_reducible refine T_if_neN (tgt := 180) (pc1 := 24) (pc := 21) k_M_walks_21 (by decide) (by decide) (by omega) (fun hc => ?_) (fun hc => ?_) <;> first | (exfalso; omega) | skip)
                | refine T_if_ne_t (tgt := 180) (pc := 21) k_M_walks_21 rfl (by decide) ?_
                | refine T_if_ne_f (tgt := 180) (pc1 := 24) (pc := 21) k_M_walks_21 rfl rfl (by decide) ?_
                | refine T_if_ne (tgt := 180) (pc1 := 24) (pc := 21) k_M_walks_21 rfl rfl (fun hc => ?_) (fun hc => ?_)
                | refine T_aload_n (pc1 := 25) (pc := 24) k_M_walks_24 rfl rfl ?_
                | refine T_aload_nN (pc1 := 25) (pc := 24) k_M_walks_24 rfl rfl ?_
                | refine T_iload_n (pc1 := 26) (pc := 25) k_M_walks_25 rfl rfl ?_
                | refine T_iload_n (pc1 := 27) (pc := 26) k_M_walks_26 rfl rfl ?_
                | refine T_iload (pc1 := 29) (pc := 27) k_M_walks_27 rfl rfl ?_
                | (refine T_cV (As := [_, _, _]) (d1 := 4) (pc1 := 32) (pc := 29) k_M_walks_29 rfl (by decide) (Nat.le_of_ble_eq_true rfl) rfl o_M_firstBit l_M_171 rfl (by first | exact ga G (by decide) rfl | assumption) rfl (c_M_firstBit G hJN ok hF ha ht (fun J1 hJ1 => ?_)) <;> try dsimp only [psh])
                | refine T_istore (pc1 := 34) (pc := 32) k_M_walks_32 rfl (Nat.le_of_ble_eq_true rfl) ?_
                | refine T_iload (pc1 := 36) (pc := 34) k_M_walks_34 rfl rfl ?_
                | (with_reducible refine T_if_geN (tgt := 43) (pc1 := 39) (pc := 36) k_M_walks_36 (by decide) (by decide) (by omega) ?_ <;> first | (exfalso; omega) | skip)
                | refine T_if_ge_t (tgt := 43) (pc := 36) k_M_walks_36 rfl (by decide) ?_
                | refine T_if_ge_f (tgt := 43) (pc1 := 39) (pc := 36) k_M_walks_36 rfl rfl (by decide) ?_
                | refine T_if_ge (tgt := 43) (pc1 := 39) (pc := 36) k_M_walks_36 rfl rfl (fun hc => ?_) (fun hc => ?_)
                | refine T_iconst (v := (nI 1)) (pc1 := 40) (pc := 39) k_M_walks_39 rfl (by decide) ?_
                | refine T_goto (tgt := 55) (pc := 40) k_M_walks_40 rfl ?_
                | refine T_iload (pc1 := 45) (pc := 43) k_M_walks_43 rfl rfl ?_
                | refine T_bipush (v := (nI 60)) (pc1 := 47) (pc := 45) k_M_walks_45 rfl (by decide) ?_
                | (with_reducible refine T_icmp_neN (tgt := 54) (pc1 := 50) (pc := 47) k_M_walks_47 (by decide) (by decide) (by omega) (by omega) (fun hc => ?_) (fun hc => ?_) <;> first | (exfalso; omega) | skip)
                | refine T_icmp_ne_t (tgt := 54) (pc := 47) k_M_walks_47 rfl (by decide) ?_
                | refine T_icmp_ne_f (tgt := 54) (pc1 := 50) (pc := 47) k_M_walks_47 rfl rfl (by decide) ?_
                | refine T_icmp_ne (tgt := 54) (pc1 := 50) (pc := 47) k_M_walks_47 rfl rfl (fun hc => ?_) (fun hc => ?_)
                | refine T_iconst (v := (nI 2)) (pc1 := 51) (pc := 50) k_M_walks_50 rfl (by decide) ?_
                | refine T_goto (tgt := 55) (pc := 51) k_M_walks_51 rfl ?_
                | refine T_iconst (v := (nI 0)) (pc1 := 55) (pc := 54) k_M_walks_54 rfl (by decide) ?_
                | refine T_istore (pc1 := 57) (pc := 55) k_M_walks_55 rfl (Nat.le_of_ble_eq_true rfl) ?_
                | refine T_iload (pc1 := 59) (pc := 57) k_M_walks_57 rfl rfl ?_
                | (with_reducible refine T_if_neN (tgt := 177) (pc1 := 62) (pc := 59) k_M_walks_59 (by decide) (by decide) (by omega) (fun hc => ?_) (fun hc => ?_) <;> first | (exfalso; omega) | skip)
                | refine T_if_ne_t (tgt := 177) (pc := 59) k_M_walks_59 rfl (by decide) ?_
                | refine T_if_ne_f (tgt := 177) (pc1 := 62) (pc := 59) k_M_walks_59 rfl rfl (by decide) ?_
                | refine T_if_ne (tgt := 177) (pc1 := 62) (pc := 59) k_M_walks_59 rfl rfl (fun hc => ?_) (fun hc => ?_)
                | refine T_aload_n (pc1 := 63) (pc := 62) k_M_walks_62 rfl rfl ?_
                | refine T_aload_nN (pc1 := 63) (pc := 62) k_M_walks_62 rfl rfl ?_
                | refine T_getR (pc1 := 66) (pc := 63) k_M_walks_63 rfl f_M_9 rfl (by first | exact ga G (by decide) rfl | assumption) (by first | exact gr G (by decide) rfl | assumption) ?_
                | refine T_bipush (v := (nI 96)) (pc1 := 68) (pc := 66) k_M_walks_66 rfl (by decide) ?_
                | refine T_iload (pc1 := 70) (pc := 68) k_M_walks_68 rfl rfl ?_
                | with_reducible refine T_iaddN (pc1 := 71) (pc := 70) k_M_walks_70 (by decide) ?_
                | refine T_iadd (pc1 := 71) (pc := 70) k_M_walks_70 rfl ?_
                | refine T_iload (pc1 := 73) (pc := 71) k_M_walks_71 rfl rfl ?_
                | refine T_iastN (pc1 := 74) (pc := 73) k_M_walks_73 rfl (by first | exact ga G (by decide) rfl | assumption) (by omega) (by omega) ?_
                | refine T_iincN (b := 1) (pc1 := 77) (pc := 74) k_M_walks_74 rfl rfl (by decide) ?_
                | refine T_iinc (v := (nI 1)) (pc1 := 77) (pc := 74) k_M_walks_74 rfl rfl (by decide) ?_
                | refine T_aload_n (pc1 := 78) (pc := 77) k_M_walks_77 rfl rfl ?_
                | refine T_aload_nN (pc1 := 78) (pc := 77) k_M_walks_77 rfl rfl ?_
                | refine T_iload (pc1 := 80) (pc := 78) k_M_walks_78 rfl rfl ?_
                | (refine T_cV (As := [_]) (d1 := 3) (pc1 := 83) (pc := 80) k_M_walks_80 rfl (by decide) (Nat.le_of_ble_eq_true rfl) rfl o_M_isBarred l_M_146 rfl (by first | exact ga G (by decide) rfl | assumption) rfl (c_M_isBarred G hJ2N ok1 hbn (fun hbr => ?_) (fun hbr => ?_)) <;> try dsimp only [psh])
                | (with_reducible refine T_if_eqN (tgt := 101) (pc1 := 86) (pc := 83) k_M_walks_83 (by decide) (by decide) (by omega) (fun hc => ?_) (fun hc => ?_) <;> first | (exfalso; omega) | skip)
                | refine T_if_eq_t (tgt := 101) (pc := 83) k_M_walks_83 rfl (by decide) ?_
                | refine T_if_eq_f (tgt := 101) (pc1 := 86) (pc := 83) k_M_walks_83 rfl rfl (by decide) ?_
                | refine T_if_eq (tgt := 101) (pc1 := 86) (pc := 83) k_M_walks_83 rfl rfl (fun hc => ?_) (fun hc => ?_)
                | refine T_iload (pc1 := 88) (pc := 86) k_M_walks_86 rfl rfl ?_
                | refine T_iconst (v := (nI 1)) (pc1 := 89) (pc := 88) k_M_walks_88 rfl (by decide) ?_
                | refine T_iload (pc1 := 91) (pc := 89) k_M_walks_89 rfl rfl ?_
                | refine T_ishl (pc1 := 92) (pc := 91) k_M_walks_91 rfl ?_
                | refine T_istore (pc1 := 95) (pc := 93) k_M_walks_93 rfl (Nat.le_of_ble_eq_true rfl) ?_
                | refine T_iincN (b := 1) (pc1 := 98) (pc := 95) k_M_walks_95 rfl rfl (by decide) ?_
                | refine T_iinc (v := (nI 1)) (pc1 := 98) (pc := 95) k_M_walks_95 rfl rfl (by decide) ?_
                | refine T_goto (tgt := 177) (pc := 98) k_M_walks_98 rfl ?_
                | refine T_aload_n (pc1 := 102) (pc := 101) k_M_walks_101 rfl rfl ?_
                | refine T_aload_nN (pc1 := 102) (pc := 101) k_M_walks_101 rfl rfl ?_
                | refine T_iload (pc1 := 104) (pc := 102) k_M_walks_102 rfl rfl ?_
                | (refine T_cV (As := [_]) (d1 := 4) (pc1 := 107) (pc := 104) k_M_walks_104 rfl (by decide) (Nat.le_of_ble_eq_true rfl) rfl o_M_takes l_M_143 rfl (by first | exact ga G (by decide) rfl | assumption) rfl (c_M_takes G (by assumption) (by assumption) (by assumption) (fun J hJ => ?_)) <;> try dsimp only [psh])
                | refine T_istore (pc1 := 109) (pc := 107) k_M_walks_107 rfl (Nat.le_of_ble_eq_true rfl) ?_
                | refine T_iload (pc1 := 111) (pc := 109) k_M_walks_109 rfl rfl ?_
                | refine T_iload (pc1 := 113) (pc := 111) k_M_walks_111 rfl rfl ?_
                | with_reducible refine T_iaddN (pc1 := 114) (pc := 113) k_M_walks_113 (by decide) ?_
                | refine T_iadd (pc1 := 114) (pc := 113) k_M_walks_113 rfl ?_
                | refine T_istore (pc1 := 116) (pc := 114) k_M_walks_114 rfl (Nat.le_of_ble_eq_true rfl) ?_
                | refine T_aload_n (pc1 := 117) (pc := 116) k_M_walks_116 rfl rfl ?_
                | refine T_aload_nN (pc1 := 117) (pc := 116) k_M_walks_116 rfl rfl ?_
                | refine T_getR (pc1 := 120) (pc := 117) k_M_walks_117 rfl f_M_9 rfl (by first | exact ga G (by decide) rfl | assumption) (by first | exact gr G (by decide) rfl | assumption) ?_
                | refine T_bipush (v := (nI 12)) (pc1 := 122) (pc := 120) k_M_walks_120 rfl (by decide) ?_
                | refine T_bipush (v := (nI 6)) (pc1 := 124) (pc := 122) k_M_walks_122 rfl (by decide) ?_
                | refine T_iload (pc1 := 126) (pc := 124) k_M_walks_124 rfl rfl ?_
                | with_reducible refine T_imulN (pc1 := 127) (pc := 126) k_M_walks_126 (by decide) ?_
                | refine T_imul (pc1 := 127) (pc := 126) k_M_walks_126 rfl ?_
                | with_reducible refine T_iaddN (pc1 := 128) (pc := 127) k_M_walks_127 (by decide) ?_
                | refine T_iadd (pc1 := 128) (pc := 127) k_M_walks_127 rfl ?_
                | refine T_iconst (v := (nI 5)) (pc1 := 129) (pc := 128) k_M_walks_128 rfl (by decide) ?_
                | with_reducible refine T_iaddN (pc1 := 130) (pc := 129) k_M_walks_129 (by decide) ?_
                | refine T_iadd (pc1 := 130) (pc := 129) k_M_walks_129 rfl ?_
                | refine T_sipush (v := (nI 999)) (pc1 := 133) (pc := 130) k_M_walks_130 rfl (by decide) ?_
                | refine T_iload (pc1 := 135) (pc := 133) k_M_walks_133 rfl rfl ?_
                | refine T_mminV (pc1 := 138) (pc := 135) k_M_walks_135 rfl l_M_82 (by decide) (Nat.le_of_ble_eq_true rfl) (by with_reducible rfl) (by with_reducible rfl) (by omega) (by omega) ?_
                | refine T_mmin (pc1 := 138) (pc := 135) k_M_walks_135 rfl l_M_82 (by decide) (Nat.le_of_ble_eq_true rfl) ?_
                | refine T_iastN (pc1 := 139) (pc := 138) k_M_walks_138 rfl (by first | exact ga G (by decide) rfl | assumption) (by omega) (by omega) ?_
                | refine T_aload_n (pc1 := 140) (pc := 139) k_M_walks_139 rfl rfl ?_
                | refine T_aload_nN (pc1 := 140) (pc := 139) k_M_walks_139 rfl rfl ?_
                | refine T_getR (pc1 := 143) (pc := 140) k_M_walks_140 rfl f_M_9 rfl (by first | exact ga G (by decide) rfl | assumption) (by first | exact gr G (by decide) rfl | assumption) ?_
                | refine T_bipush (v := (nI 12)) (pc1 := 145) (pc := 143) k_M_walks_143 rfl (by decide) ?_
                | refine T_bipush (v := (nI 6)) (pc1 := 147) (pc := 145) k_M_walks_145 rfl (by decide) ?_
                | refine T_iload (pc1 := 149) (pc := 147) k_M_walks_147 rfl rfl ?_
                | with_reducible refine T_imulN (pc1 := 150) (pc := 149) k_M_walks_149 (by decide) ?_
                | refine T_imul (pc1 := 150) (pc := 149) k_M_walks_149 rfl ?_
                | with_reducible refine T_iaddN (pc1 := 151) (pc := 150) k_M_walks_150 (by decide) ?_
                | refine T_iadd (pc1 := 151) (pc := 150) k_M_walks_150 rfl ?_
                | refine T_iconst (v := (nI 4)) (pc1 := 152) (pc := 151) k_M_walks_151 rfl (by decide) ?_
                | with_reducible refine T_iaddN (pc1 := 153) (pc := 152) k_M_walks_152 (by decide) ?_
                | refine T_iadd (pc1 := 153) (pc := 152) k_M_walks_152 rfl ?_
                | refine T_sipush (v := (nI 999)) (pc1 := 156) (pc := 153) k_M_walks_153 rfl (by decide) ?_
                | refine T_aload_n (pc1 := 157) (pc := 156) k_M_walks_156 rfl rfl ?_
                | refine T_aload_nN (pc1 := 157) (pc := 156) k_M_walks_156 rfl rfl ?_
                | refine T_iload (pc1 := 159) (pc := 157) k_M_walks_157 rfl rfl ?_
                | refine T_iconst (v := (nI 4)) (pc1 := 160) (pc := 159) k_M_walks_159 rfl (by decide) ?_
                | (refine T_cV (As := [_, _]) (d1 := 1) (pc1 := 163) (pc := 160) k_M_walks_160 rfl (by decide) (Nat.le_of_ble_eq_true rfl) rfl o_M_bitIs l_M_124 rfl (by first | exact ga G (by decide) rfl | assumption) rfl (c_M_bitN G (by assumption) (by omega) (by omega) (by first | assumption | rfl) ?_) <;> try dsimp only [psh])
                | refine T_iconst (v := (nI 1)) (pc1 := 164) (pc := 163) k_M_walks_163 rfl (by decide) ?_
                | with_reducible refine T_iaddN (pc1 := 165) (pc := 164) k_M_walks_164 (by decide) ?_
                | refine T_iadd (pc1 := 165) (pc := 164) k_M_walks_164 rfl ?_
                | refine T_mminV (pc1 := 168) (pc := 165) k_M_walks_165 rfl l_M_82 (by decide) (Nat.le_of_ble_eq_true rfl) (by with_reducible rfl) (by with_reducible rfl) (by omega) (by omega) ?_
                | refine T_mmin (pc1 := 168) (pc := 165) k_M_walks_165 rfl l_M_82 (by decide) (Nat.le_of_ble_eq_true rfl) ?_
                | refine T_iastN (pc1 := 169) (pc := 168) k_M_walks_168 rfl (by first | exact ga G (by decide) rfl | assumption) (by omega) (by omega) ?_
                | refine T_aload_n (pc1 := 170) (pc := 169) k_M_walks_169 rfl rfl ?_
                | refine T_aload_nN (pc1 := 170) (pc := 169) k_M_walks_169 rfl rfl ?_
                | refine T_iload (pc1 := 172) (pc := 170) k_M_walks_170 rfl rfl ?_
                | refine T_iload_n (pc1 := 173) (pc := 172) k_M_walks_172 rfl rfl ?_
                | refine T_istore_n (pc1 := 177) (pc := 176) k_M_walks_176 rfl (Nat.le_of_ble_eq_true rfl) ?_
                | refine T_goto (tgt := 14) (pc := 177) k_M_walks_177 rfl ?_
                | refine T_aload_n (pc1 := 181) (pc := 180) k_M_walks_180 rfl rfl ?_
                | refine T_aload_nN (pc1 := 181) (pc := 180) k_M_walks_180 rfl rfl ?_
                | refine T_getR (pc1 := 184) (pc := 181) k_M_walks_181 rfl f_M_9 rfl (by first | exact ga G (by decide) rfl | assumption) (by first | exact gr G (by decide) rfl | assumption) ?_
                | refine T_bipush (v := (nI 7)) (pc1 := 186) (pc := 184) k_M_walks_184 rfl (by decide) ?_
                | refine T_iconst (v := (nI 1)) (pc1 := 187) (pc := 186) k_M_walks_186 rfl (by decide) ?_
                | refine T_iastN (pc1 := 188) (pc := 187) k_M_walks_187 rfl (by first | exact ga G (by decide) rfl | assumption) (by omega) (by omega) ?_
                | refine T_aload_n (pc1 := 189) (pc := 188) k_M_walks_188 rfl rfl ?_
                | refine T_aload_nN (pc1 := 189) (pc := 188) k_M_walks_188 rfl rfl ?_
                | refine T_getR (pc1 := 192) (pc := 189) k_M_walks_189 rfl f_M_9 rfl (by first | exact ga G (by decide) rfl | assumption) (by first | exact gr G (by decide) rfl | assumption) ?_
                | refine T_bipush (v := (nI 8)) (pc1 := 194) (pc := 192) k_M_walks_192 rfl (by decide) ?_
                | refine T_iload (pc1 := 196) (pc := 194) k_M_walks_194 rfl rfl ?_
                | refine T_iastN (pc1 := 197) (pc := 196) k_M_walks_196 rfl (by first | exact ga G (by decide) rfl | assumption) (by omega) (by omega) ?_
                | refine T_aload_n (pc1 := 198) (pc := 197) k_M_walks_197 rfl rfl ?_
                | refine T_aload_nN (pc1 := 198) (pc := 197) k_M_walks_197 rfl rfl ?_
                | refine T_getR (pc1 := 201) (pc := 198) k_M_walks_198 rfl f_M_9 rfl (by first | exact ga G (by decide) rfl | assumption) (by first | exact gr G (by decide) rfl | assumption) ?_
                | refine T_bipush (v := (nI 9)) (pc1 := 203) (pc := 201) k_M_walks_201 rfl (by decide) ?_
                | refine T_iload (pc1 := 205) (pc := 203) k_M_walks_203 rfl rfl ?_
                | refine T_iastN (pc1 := 206) (pc := 205) k_M_walks_205 rfl (by first | exact ga G (by decide) rfl | assumption) (by omega) (by omega) ?_
                | refine T_aload_n (pc1 := 207) (pc := 206) k_M_walks_206 rfl rfl ?_
                | refine T_aload_nN (pc1 := 207) (pc := 206) k_M_walks_206 rfl rfl ?_
                | refine T_getR (pc1 := 210) (pc := 207) k_M_walks_207 rfl f_M_9 rfl (by first | exact ga G (by decide) rfl | assumption) (by first | exact gr G (by decide) rfl | assumption) ?_
                | refine T_bipush (v := (nI 10)) (pc1 := 212) (pc := 210) k_M_walks_210 rfl (by decide) ?_
                | refine T_iload_n (pc1 := 213) (pc := 212) k_M_walks_212 rfl rfl ?_
                | refine T_iastN (pc1 := 214) (pc := 213) k_M_walks_213 rfl (by first | exact ga G (by decide) rfl | assumption) (by omega) (by omega) ?_
                | refine T_aload_n (pc1 := 215) (pc := 214) k_M_walks_214 rfl rfl ?_
                | refine T_aload_nN (pc1 := 215) (pc := 214) k_M_walks_214 rfl rfl ?_
                | refine T_getR (pc1 := 218) (pc := 215) k_M_walks_215 rfl f_M_9 rfl (by first | exact ga G (by decide) rfl | assumption) (by first | exact gr G (by decide) rfl | assumption) ?_
                | refine T_bipush (v := (nI 11)) (pc1 := 220) (pc := 218) k_M_walks_218 rfl (by decide) ?_
                | refine T_iload (pc1 := 222) (pc := 220) k_M_walks_220 rfl rfl ?_
                | refine T_iastN (pc1 := 223) (pc := 222) k_M_walks_222 rfl (by first | exact ga G (by decide) rfl | assumption) (by omega) (by omega) ?_
                | refine T_aload_n (pc1 := 224) (pc := 223) k_M_walks_223 rfl rfl ?_
                | refine T_aload_nN (pc1 := 224) (pc := 223) k_M_walks_223 rfl rfl ?_
                | refine T_getR (pc1 := 227) (pc := 224) k_M_walks_224 rfl f_M_9 rfl (by first | exact ga G (by decide) rfl | assumption) (by first | exact gr G (by decide) rfl | assumption) ?_
                | refine T_iconst (v := (nI 1)) (pc1 := 228) (pc := 227) k_M_walks_227 rfl (by decide) ?_
                | refine T_dup2 (pc1 := 229) (pc := 228) k_M_walks_228 rfl rfl rfl ?_
                | refine T_ialdN (pc1 := 230) (pc := 229) k_M_walks_229 rfl (by first | exact ga G (by decide) rfl | assumption) (by omega) (by omega) (by first | assumption | (simp (disch := omega) only [pI_eq, pI_row, pI_col, va_up_self, va_up_ne, ne_eq, not_false_eq_true, hJN] <;> rfl) | rfl) ?_
                | refine T_iald (pc1 := 230) (pc := 229) k_M_walks_229 rfl (by first | exact ga G (by decide) rfl | assumption) (by assumption) ?_
                | refine T_iconst (v := (nI 1)) (pc1 := 231) (pc := 230) k_M_walks_230 rfl (by decide) ?_
                | with_reducible refine T_iaddN (pc1 := 232) (pc := 231) k_M_walks_231 (by decide) ?_
                | refine T_iadd (pc1 := 232) (pc := 231) k_M_walks_231 rfl ?_
                | refine T_iastN (pc1 := 233) (pc := 232) k_M_walks_232 rfl (by first | exact ga G (by decide) rfl | assumption) (by omega) (by omega) ?_
                | refine T_aload_n (pc1 := 234) (pc := 233) k_M_walks_233 rfl rfl ?_
                | refine T_aload_nN (pc1 := 234) (pc := 233) k_M_walks_233 rfl rfl ?_
                | refine T_getR (pc1 := 237) (pc := 234) k_M_walks_234 rfl f_M_9 rfl (by first | exact ga G (by decide) rfl | assumption) (by first | exact gr G (by decide) rfl | assumption) ?_
                | refine T_iconst (v := (nI 2)) (pc1 := 238) (pc := 237) k_M_walks_237 rfl (by decide) ?_
                | refine T_dup2 (pc1 := 239) (pc := 238) k_M_walks_238 rfl rfl rfl ?_
                | refine T_ialdN (pc1 := 240) (pc := 239) k_M_walks_239 rfl (by first | exact ga G (by decide) rfl | assumption) (by omega) (by omega) (by first | assumption | (simp (disch := omega) only [pI_eq, pI_row, pI_col, va_up_self, va_up_ne, ne_eq, not_false_eq_true, hJN] <;> rfl) | rfl) ?_
                | refine T_iald (pc1 := 240) (pc := 239) k_M_walks_239 rfl (by first | exact ga G (by decide) rfl | assumption) (by assumption) ?_
                | refine T_iload (pc1 := 242) (pc := 240) k_M_walks_240 rfl rfl ?_
                | with_reducible refine T_iaddN (pc1 := 243) (pc := 242) k_M_walks_242 (by decide) ?_
                | refine T_iadd (pc1 := 243) (pc := 242) k_M_walks_242 rfl ?_
                | refine T_iastN (pc1 := 244) (pc := 243) k_M_walks_243 rfl (by first | exact ga G (by decide) rfl | assumption) (by omega) (by omega) ?_
                | refine T_iload (pc1 := 246) (pc := 244) k_M_walks_244 rfl rfl ?_
                | refine T_retI (pc := 246) k_M_walks_246 rfl (by first | rfl | decide | assumption) ?_)
              rw [shl_nI b (by omega)]
              have hp : 2 ^ b < 2 ^ 14 := Nat.pow_lt_pow_right (by decide) (by omega)
              have ho : F ||| 2 ^ b < 2 ^ 14 := Nat.or_lt_two_pow hF hp
              repeat' (first
                | refine T_iload_n (pc1 := 1) (pc := 0) k_M_walks_0 rfl rfl ?_
                | refine T_istore_n (pc1 := 2) (pc := 1) k_M_walks_1 rfl (Nat.le_of_ble_eq_true rfl) ?_
                | refine T_iconst (v := (nI 0)) (pc1 := 3) (pc := 2) k_M_walks_2 rfl (by decide) ?_
                | refine T_istore (pc1 := 5) (pc := 3) k_M_walks_3 rfl (Nat.le_of_ble_eq_true rfl) ?_
                | refine T_iconst (v := (nI 0)) (pc1 := 6) (pc := 5) k_M_walks_5 rfl (by decide) ?_
                | refine T_istore (pc1 := 8) (pc := 6) k_M_walks_6 rfl (Nat.le_of_ble_eq_true rfl) ?_
                | refine T_iconst (v := (nI 0)) (pc1 := 9) (pc := 8) k_M_walks_8 rfl (by decide) ?_
                | refine T_istore (pc1 := 11) (pc := 9) k_M_walks_9 rfl (Nat.le_of_ble_eq_true rfl) ?_
                | refine T_iconst (v := (nI 0)) (pc1 := 12) (pc := 11) k_M_walks_11 rfl (by decide) ?_
                | refine T_istore (pc1 := 14) (pc := 12) k_M_walks_12 rfl (Nat.le_of_ble_eq_true rfl) ?_
                | refine T_iload_n (pc1 := 16) (pc := 15) k_M_walks_15 rfl rfl ?_
                | (with_reducible refine T_icmp_eqN (tgt := 180) (pc1 := 19) (pc := 16) k_M_walks_16 (by decide) (by decide) (by omega) (by omega) (fun hc => ?_) (fun hc => ?_) <;> first | (exfalso; omega) | skip)
                | refine T_icmp_eq_t (tgt := 180) (pc := 16) k_M_walks_16 rfl (by decide) ?_
                | refine T_icmp_eq_f (tgt := 180) (pc1 := 19) (pc := 16) k_M_walks_16 rfl rfl (by decide) ?_
                | refine T_icmp_eq (tgt := 180) (pc1 := 19) (pc := 16) k_M_walks_16 rfl rfl (fun hc => ?_) (fun hc => ?_)
                | refine T_iload (pc1 := 21) (pc := 19) k_M_walks_19 rfl rfl ?_
                | (with_reducible refine T_if_neN (tgt := 180) (pc1 := 24) (pc := 21) k_M_walks_21 (by decide) (by decide) (by omega) (fun hc => ?_) (fun hc => ?_) <;> first | (exfalso; omega) | skip)
                | refine T_if_ne_t (tgt := 180) (pc := 21) k_M_walks_21 rfl (by decide) ?_
                | refine T_if_ne_f (tgt := 180) (pc1 := 24) (pc := 21) k_M_walks_21 rfl rfl (by decide) ?_
                | refine T_if_ne (tgt := 180) (pc1 := 24) (pc := 21) k_M_walks_21 rfl rfl (fun hc => ?_) (fun hc => ?_)
                | refine T_aload_n (pc1 := 25) (pc := 24) k_M_walks_24 rfl rfl ?_
                | refine T_aload_nN (pc1 := 25) (pc := 24) k_M_walks_24 rfl rfl ?_
                | refine T_iload_n (pc1 := 26) (pc := 25) k_M_walks_25 rfl rfl ?_
                | refine T_iload_n (pc1 := 27) (pc := 26) k_M_walks_26 rfl rfl ?_
                | refine T_iload (pc1 := 29) (pc := 27) k_M_walks_27 rfl rfl ?_
                | (refine T_cV (As := [_, _, _]) (d1 := 4) (pc1 := 32) (pc := 29) k_M_walks_29 rfl (by decide) (Nat.le_of_ble_eq_true rfl) rfl o_M_firstBit l_M_171 rfl (by first | exact ga G (by decide) rfl | assumption) rfl (c_M_firstBit G hJN ok hF ha ht (fun J1 hJ1 => ?_)) <;> try dsimp only [psh])
                | refine T_istore (pc1 := 34) (pc := 32) k_M_walks_32 rfl (Nat.le_of_ble_eq_true rfl) ?_
                | refine T_iload (pc1 := 36) (pc := 34) k_M_walks_34 rfl rfl ?_
                | (with_reducible refine T_if_geN (tgt := 43) (pc1 := 39) (pc := 36) k_M_walks_36 (by decide) (by decide) (by omega) ?_ <;> first | (exfalso; omega) | skip)
                | refine T_if_ge_t (tgt := 43) (pc := 36) k_M_walks_36 rfl (by decide) ?_
                | refine T_if_ge_f (tgt := 43) (pc1 := 39) (pc := 36) k_M_walks_36 rfl rfl (by decide) ?_
                | refine T_if_ge (tgt := 43) (pc1 := 39) (pc := 36) k_M_walks_36 rfl rfl (fun hc => ?_) (fun hc => ?_)
                | refine T_iconst (v := (nI 1)) (pc1 := 40) (pc := 39) k_M_walks_39 rfl (by decide) ?_
                | refine T_goto (tgt := 55) (pc := 40) k_M_walks_40 rfl ?_
                | refine T_iload (pc1 := 45) (pc := 43) k_M_walks_43 rfl rfl ?_
                | refine T_bipush (v := (nI 60)) (pc1 := 47) (pc := 45) k_M_walks_45 rfl (by decide) ?_
                | (with_reducible refine T_icmp_neN (tgt := 54) (pc1 := 50) (pc := 47) k_M_walks_47 (by decide) (by decide) (by omega) (by omega) (fun hc => ?_) (fun hc => ?_) <;> first | (exfalso; omega) | skip)
                | refine T_icmp_ne_t (tgt := 54) (pc := 47) k_M_walks_47 rfl (by decide) ?_
                | refine T_icmp_ne_f (tgt := 54) (pc1 := 50) (pc := 47) k_M_walks_47 rfl rfl (by decide) ?_
                | refine T_icmp_ne (tgt := 54) (pc1 := 50) (pc := 47) k_M_walks_47 rfl rfl (fun hc => ?_) (fun hc => ?_)
                | refine T_iconst (v := (nI 2)) (pc1 := 51) (pc := 50) k_M_walks_50 rfl (by decide) ?_
                | refine T_goto (tgt := 55) (pc := 51) k_M_walks_51 rfl ?_
                | refine T_iconst (v := (nI 0)) (pc1 := 55) (pc := 54) k_M_walks_54 rfl (by decide) ?_
                | refine T_istore (pc1 := 57) (pc := 55) k_M_walks_55 rfl (Nat.le_of_ble_eq_true rfl) ?_
                | refine T_iload (pc1 := 59) (pc := 57) k_M_walks_57 rfl rfl ?_
                | (with_reducible refine T_if_neN (tgt := 177) (pc1 := 62) (pc := 59) k_M_walks_59 (by decide) (by decide) (by omega) (fun hc => ?_) (fun hc => ?_) <;> first | (exfalso; omega) | skip)
                | refine T_if_ne_t (tgt := 177) (pc := 59) k_M_walks_59 rfl (by decide) ?_
                | refine T_if_ne_f (tgt := 177) (pc1 := 62) (pc := 59) k_M_walks_59 rfl rfl (by decide) ?_
                | refine T_if_ne (tgt := 177) (pc1 := 62) (pc := 59) k_M_walks_59 rfl rfl (fun hc => ?_) (fun hc => ?_)
                | refine T_aload_n (pc1 := 63) (pc := 62) k_M_walks_62 rfl rfl ?_
                | refine T_aload_nN (pc1 := 63) (pc := 62) k_M_walks_62 rfl rfl ?_
                | refine T_getR (pc1 := 66) (pc := 63) k_M_walks_63 rfl f_M_9 rfl (by first | exact ga G (by decide) rfl | assumption) (by first | exact gr G (by decide) rfl | assumption) ?_
                | refine T_bipush (v := (nI 96)) (pc1 := 68) (pc := 66) k_M_walks_66 rfl (by decide) ?_
                | refine T_iload (pc1 := 70) (pc := 68) k_M_walks_68 rfl rfl ?_
                | with_reducible refine T_iaddN (pc1 := 71) (pc := 70) k_M_walks_70 (by decide) ?_
                | refine T_iadd (pc1 := 71) (pc := 70) k_M_walks_70 rfl ?_
                | refine T_iload (pc1 := 73) (pc := 71) k_M_walks_71 rfl rfl ?_
                | refine T_iastN (pc1 := 74) (pc := 73) k_M_walks_73 rfl (by first | exact ga G (by decide) rfl | assumption) (by omega) (by omega) ?_
                | refine T_iincN (b := 1) (pc1 := 77) (pc := 74) k_M_walks_74 rfl rfl (by decide) ?_
                | refine T_iinc (v := (nI 1)) (pc1 := 77) (pc := 74) k_M_walks_74 rfl rfl (by decide) ?_
                | refine T_aload_n (pc1 := 78) (pc := 77) k_M_walks_77 rfl rfl ?_
                | refine T_aload_nN (pc1 := 78) (pc := 77) k_M_walks_77 rfl rfl ?_
                | refine T_iload (pc1 := 80) (pc := 78) k_M_walks_78 rfl rfl ?_
                | (refine T_cV (As := [_]) (d1 := 3) (pc1 := 83) (pc := 80) k_M_walks_80 rfl (by decide) (Nat.le_of_ble_eq_true rfl) rfl o_M_isBarred l_M_146 rfl (by first | exact ga G (by decide) rfl | assumption) rfl (c_M_isBarred G hJ2N ok1 hbn (fun hbr => ?_) (fun hbr => ?_)) <;> try dsimp only [psh])
                | (with_reducible refine T_if_eqN (tgt := 101) (pc1 := 86) (pc := 83) k_M_walks_83 (by decide) (by decide) (by omega) (fun hc => ?_) (fun hc => ?_) <;> first | (exfalso; omega) | skip)
                | refine T_if_eq_t (tgt := 101) (pc := 83) k_M_walks_83 rfl (by decide) ?_
                | refine T_if_eq_f (tgt := 101) (pc1 := 86) (pc := 83) k_M_walks_83 rfl rfl (by decide) ?_
                | refine T_if_eq (tgt := 101) (pc1 := 86) (pc := 83) k_M_walks_83 rfl rfl (fun hc => ?_) (fun hc => ?_)
                | refine T_iload (pc1 := 88) (pc := 86) k_M_walks_86 rfl rfl ?_
                | refine T_iconst (v := (nI 1)) (pc1 := 89) (pc := 88) k_M_walks_88 rfl (by decide) ?_
                | refine T_iload (pc1 := 91) (pc := 89) k_M_walks_89 rfl rfl ?_
                | refine T_ishl (pc1 := 92) (pc := 91) k_M_walks_91 rfl ?_
                | (refine T_ior (pc1 := 93) (pc := 92) k_M_walks_92 rfl ?_; rw [or_nI (by omega) (by omega)])
                | refine T_istore (pc1 := 95) (pc := 93) k_M_walks_93 rfl (Nat.le_of_ble_eq_true rfl) ?_
                | refine T_iincN (b := 1) (pc1 := 98) (pc := 95) k_M_walks_95 rfl rfl (by decide) ?_
                | refine T_iinc (v := (nI 1)) (pc1 := 98) (pc := 95) k_M_walks_95 rfl rfl (by decide) ?_
                | refine T_goto (tgt := 177) (pc := 98) k_M_walks_98 rfl ?_
                | refine T_aload_n (pc1 := 102) (pc := 101) k_M_walks_101 rfl rfl ?_
                | refine T_aload_nN (pc1 := 102) (pc := 101) k_M_walks_101 rfl rfl ?_
                | refine T_iload (pc1 := 104) (pc := 102) k_M_walks_102 rfl rfl ?_
                | (refine T_cV (As := [_]) (d1 := 4) (pc1 := 107) (pc := 104) k_M_walks_104 rfl (by decide) (Nat.le_of_ble_eq_true rfl) rfl o_M_takes l_M_143 rfl (by first | exact ga G (by decide) rfl | assumption) rfl (c_M_takes G (by assumption) (by assumption) (by assumption) (fun J hJ => ?_)) <;> try dsimp only [psh])
                | refine T_istore (pc1 := 109) (pc := 107) k_M_walks_107 rfl (Nat.le_of_ble_eq_true rfl) ?_
                | refine T_iload (pc1 := 111) (pc := 109) k_M_walks_109 rfl rfl ?_
                | refine T_iload (pc1 := 113) (pc := 111) k_M_walks_111 rfl rfl ?_
                | with_reducible refine T_iaddN (pc1 := 114) (pc := 113) k_M_walks_113 (by decide) ?_
                | refine T_iadd (pc1 := 114) (pc := 113) k_M_walks_113 rfl ?_
                | refine T_istore (pc1 := 116) (pc := 114) k_M_walks_114 rfl (Nat.le_of_ble_eq_true rfl) ?_
                | refine T_aload_n (pc1 := 117) (pc := 116) k_M_walks_116 rfl rfl ?_
                | refine T_aload_nN (pc1 := 117) (pc := 116) k_M_walks_116 rfl rfl ?_
                | refine T_getR (pc1 := 120) (pc := 117) k_M_walks_117 rfl f_M_9 rfl (by first | exact ga G (by decide) rfl | assumption) (by first | exact gr G (by decide) rfl | assumption) ?_
                | refine T_bipush (v := (nI 12)) (pc1 := 122) (pc := 120) k_M_walks_120 rfl (by decide) ?_
                | refine T_bipush (v := (nI 6)) (pc1 := 124) (pc := 122) k_M_walks_122 rfl (by decide) ?_
                | refine T_iload (pc1 := 126) (pc := 124) k_M_walks_124 rfl rfl ?_
                | with_reducible refine T_imulN (pc1 := 127) (pc := 126) k_M_walks_126 (by decide) ?_
                | refine T_imul (pc1 := 127) (pc := 126) k_M_walks_126 rfl ?_
                | with_reducible refine T_iaddN (pc1 := 128) (pc := 127) k_M_walks_127 (by decide) ?_
                | refine T_iadd (pc1 := 128) (pc := 127) k_M_walks_127 rfl ?_
                | refine T_iconst (v := (nI 5)) (pc1 := 129) (pc := 128) k_M_walks_128 rfl (by decide) ?_
                | with_reducible refine T_iaddN (pc1 := 130) (pc := 129) k_M_walks_129 (by decide) ?_
                | refine T_iadd (pc1 := 130) (pc := 129) k_M_walks_129 rfl ?_
                | refine T_sipush (v := (nI 999)) (pc1 := 133) (pc := 130) k_M_walks_130 rfl (by decide) ?_
                | refine T_iload (pc1 := 135) (pc := 133) k_M_walks_133 rfl rfl ?_
                | refine T_mminV (pc1 := 138) (pc := 135) k_M_walks_135 rfl l_M_82 (by decide) (Nat.le_of_ble_eq_true rfl) (by with_reducible rfl) (by with_reducible rfl) (by omega) (by omega) ?_
                | refine T_mmin (pc1 := 138) (pc := 135) k_M_walks_135 rfl l_M_82 (by decide) (Nat.le_of_ble_eq_true rfl) ?_
                | refine T_iastN (pc1 := 139) (pc := 138) k_M_walks_138 rfl (by first | exact ga G (by decide) rfl | assumption) (by omega) (by omega) ?_
                | refine T_aload_n (pc1 := 140) (pc := 139) k_M_walks_139 rfl rfl ?_
                | refine T_aload_nN (pc1 := 140) (pc := 139) k_M_walks_139 rfl rfl ?_
                | refine T_getR (pc1 := 143) (pc := 140) k_M_walks_140 rfl f_M_9 rfl (by first | exact ga G (by decide) rfl | assumption) (by first | exact gr G (by decide) rfl | assumption) ?_
                | refine T_bipush (v := (nI 12)) (pc1 := 145) (pc := 143) k_M_walks_143 rfl (by decide) ?_
                | refine T_bipush (v := (nI 6)) (pc1 := 147) (pc := 145) k_M_walks_145 rfl (by decide) ?_
                | refine T_iload (pc1 := 149) (pc := 147) k_M_walks_147 rfl rfl ?_
                | with_reducible refine T_imulN (pc1 := 150) (pc := 149) k_M_walks_149 (by decide) ?_
                | refine T_imul (pc1 := 150) (pc := 149) k_M_walks_149 rfl ?_
                | with_reducible refine T_iaddN (pc1 := 151) (pc := 150) k_M_walks_150 (by decide) ?_
                | refine T_iadd (pc1 := 151) (pc := 150) k_M_walks_150 rfl ?_
                | refine T_iconst (v := (nI 4)) (pc1 := 152) (pc := 151) k_M_walks_151 rfl (by decide) ?_
                | with_reducible refine T_iaddN (pc1 := 153) (pc := 152) k_M_walks_152 (by decide) ?_
                | refine T_iadd (pc1 := 153) (pc := 152) k_M_walks_152 rfl ?_
                | refine T_sipush (v := (nI 999)) (pc1 := 156) (pc := 153) k_M_walks_153 rfl (by decide) ?_
                | refine T_aload_n (pc1 := 157) (pc := 156) k_M_walks_156 rfl rfl ?_
                | refine T_aload_nN (pc1 := 157) (pc := 156) k_M_walks_156 rfl rfl ?_
                | refine T_iload (pc1 := 159) (pc := 157) k_M_walks_157 rfl rfl ?_
                | refine T_iconst (v := (nI 4)) (pc1 := 160) (pc := 159) k_M_walks_159 rfl (by decide) ?_
                | (refine T_cV (As := [_, _]) (d1 := 1) (pc1 := 163) (pc := 160) k_M_walks_160 rfl (by decide) (Nat.le_of_ble_eq_true rfl) rfl o_M_bitIs l_M_124 rfl (by first | exact ga G (by decide) rfl | assumption) rfl (c_M_bitN G (by assumption) (by omega) (by omega) (by first | assumption | rfl) ?_) <;> try dsimp only [psh])
                | refine T_iconst (v := (nI 1)) (pc1 := 164) (pc := 163) k_M_walks_163 rfl (by decide) ?_
                | with_reducible refine T_iaddN (pc1 := 165) (pc := 164) k_M_walks_164 (by decide) ?_
                | refine T_iadd (pc1 := 165) (pc := 164) k_M_walks_164 rfl ?_
                | refine T_mminV (pc1 := 168) (pc := 165) k_M_walks_165 rfl l_M_82 (by decide) (Nat.le_of_ble_eq_true rfl) (by with_reducible rfl) (by with_reducible rfl) (by omega) (by omega) ?_
                | refine T_mmin (pc1 := 168) (pc := 165) k_M_walks_165 rfl l_M_82 (by decide) (Nat.le_of_ble_eq_true rfl) ?_
                | refine T_iastN (pc1 := 169) (pc := 168) k_M_walks_168 rfl (by first | exact ga G (by decide) rfl | assumption) (by omega) (by omega) ?_
                | refine T_aload_n (pc1 := 170) (pc := 169) k_M_walks_169 rfl rfl ?_
                | refine T_aload_nN (pc1 := 170) (pc := 169) k_M_walks_169 rfl rfl ?_
                | refine T_iload (pc1 := 172) (pc := 170) k_M_walks_170 rfl rfl ?_
                | refine T_iload_n (pc1 := 173) (pc := 172) k_M_walks_172 rfl rfl ?_
                | refine T_istore_n (pc1 := 177) (pc := 176) k_M_walks_176 rfl (Nat.le_of_ble_eq_true rfl) ?_
                | refine T_goto (tgt := 14) (pc := 177) k_M_walks_177 rfl ?_
                | refine T_aload_n (pc1 := 181) (pc := 180) k_M_walks_180 rfl rfl ?_
                | refine T_aload_nN (pc1 := 181) (pc := 180) k_M_walks_180 rfl rfl ?_
                | refine T_getR (pc1 := 184) (pc := 181) k_M_walks_181 rfl f_M_9 rfl (by first | exact ga G (by decide) rfl | assumption) (by first | exact gr G (by decide) rfl | assumption) ?_
                | refine T_bipush (v := (nI 7)) (pc1 := 186) (pc := 184) k_M_walks_184 rfl (by decide) ?_
                | refine T_iconst (v := (nI 1)) (pc1 := 187) (pc := 186) k_M_walks_186 rfl (by decide) ?_
                | refine T_iastN (pc1 := 188) (pc := 187) k_M_walks_187 rfl (by first | exact ga G (by decide) rfl | assumption) (by omega) (by omega) ?_
                | refine T_aload_n (pc1 := 189) (pc := 188) k_M_walks_188 rfl rfl ?_
                | refine T_aload_nN (pc1 := 189) (pc := 188) k_M_walks_188 rfl rfl ?_
                | refine T_getR (pc1 := 192) (pc := 189) k_M_walks_189 rfl f_M_9 rfl (by first | exact ga G (by decide) rfl | assumption) (by first | exact gr G (by decide) rfl | assumption) ?_
                | refine T_bipush (v := (nI 8)) (pc1 := 194) (pc := 192) k_M_walks_192 rfl (by decide) ?_
                | refine T_iload (pc1 := 196) (pc := 194) k_M_walks_194 rfl rfl ?_
                | refine T_iastN (pc1 := 197) (pc := 196) k_M_walks_196 rfl (by first | exact ga G (by decide) rfl | assumption) (by omega) (by omega) ?_
                | refine T_aload_n (pc1 := 198) (pc := 197) k_M_walks_197 rfl rfl ?_
                | refine T_aload_nN (pc1 := 198) (pc := 197) k_M_walks_197 rfl rfl ?_
                | refine T_getR (pc1 := 201) (pc := 198) k_M_walks_198 rfl f_M_9 rfl (by first | exact ga G (by decide) rfl | assumption) (by first | exact gr G (by decide) rfl | assumption) ?_
                | refine T_bipush (v := (nI 9)) (pc1 := 203) (pc := 201) k_M_walks_201 rfl (by decide) ?_
                | refine T_iload (pc1 := 205) (pc := 203) k_M_walks_203 rfl rfl ?_
                | refine T_iastN (pc1 := 206) (pc := 205) k_M_walks_205 rfl (by first | exact ga G (by decide) rfl | assumption) (by omega) (by omega) ?_
                | refine T_aload_n (pc1 := 207) (pc := 206) k_M_walks_206 rfl rfl ?_
                | refine T_aload_nN (pc1 := 207) (pc := 206) k_M_walks_206 rfl rfl ?_
                | refine T_getR (pc1 := 210) (pc := 207) k_M_walks_207 rfl f_M_9 rfl (by first | exact ga G (by decide) rfl | assumption) (by first | exact gr G (by decide) rfl | assumption) ?_
                | refine T_bipush (v := (nI 10)) (pc1 := 212) (pc := 210) k_M_walks_210 rfl (by decide) ?_
                | refine T_iload_n (pc1 := 213) (pc := 212) k_M_walks_212 rfl rfl ?_
                | refine T_iastN (pc1 := 214) (pc := 213) k_M_walks_213 rfl (by first | exact ga G (by decide) rfl | assumption) (by omega) (by omega) ?_
                | refine T_aload_n (pc1 := 215) (pc := 214) k_M_walks_214 rfl rfl ?_
                | refine T_aload_nN (pc1 := 215) (pc := 214) k_M_walks_214 rfl rfl ?_
                | refine T_getR (pc1 := 218) (pc := 215) k_M_walks_215 rfl f_M_9 rfl (by first | exact ga G (by decide) rfl | assumption) (by first | exact gr G (by decide) rfl | assumption) ?_
                | refine T_bipush (v := (nI 11)) (pc1 := 220) (pc := 218) k_M_walks_218 rfl (by decide) ?_
                | refine T_iload (pc1 := 222) (pc := 220) k_M_walks_220 rfl rfl ?_
                | refine T_iastN (pc1 := 223) (pc := 222) k_M_walks_222 rfl (by first | exact ga G (by decide) rfl | assumption) (by omega) (by omega) ?_
                | refine T_aload_n (pc1 := 224) (pc := 223) k_M_walks_223 rfl rfl ?_
                | refine T_aload_nN (pc1 := 224) (pc := 223) k_M_walks_223 rfl rfl ?_
                | refine T_getR (pc1 := 227) (pc := 224) k_M_walks_224 rfl f_M_9 rfl (by first | exact ga G (by decide) rfl | assumption) (by first | exact gr G (by decide) rfl | assumption) ?_
                | refine T_iconst (v := (nI 1)) (pc1 := 228) (pc := 227) k_M_walks_227 rfl (by decide) ?_
                | refine T_dup2 (pc1 := 229) (pc := 228) k_M_walks_228 rfl rfl rfl ?_
                | refine T_ialdN (pc1 := 230) (pc := 229) k_M_walks_229 rfl (by first | exact ga G (by decide) rfl | assumption) (by omega) (by omega) (by first | assumption | (simp (disch := omega) only [pI_eq, pI_row, pI_col, va_up_self, va_up_ne, ne_eq, not_false_eq_true, hJN] <;> rfl) | rfl) ?_
                | refine T_iald (pc1 := 230) (pc := 229) k_M_walks_229 rfl (by first | exact ga G (by decide) rfl | assumption) (by assumption) ?_
                | refine T_iconst (v := (nI 1)) (pc1 := 231) (pc := 230) k_M_walks_230 rfl (by decide) ?_
                | with_reducible refine T_iaddN (pc1 := 232) (pc := 231) k_M_walks_231 (by decide) ?_
                | refine T_iadd (pc1 := 232) (pc := 231) k_M_walks_231 rfl ?_
                | refine T_iastN (pc1 := 233) (pc := 232) k_M_walks_232 rfl (by first | exact ga G (by decide) rfl | assumption) (by omega) (by omega) ?_
                | refine T_aload_n (pc1 := 234) (pc := 233) k_M_walks_233 rfl rfl ?_
                | refine T_aload_nN (pc1 := 234) (pc := 233) k_M_walks_233 rfl rfl ?_
                | refine T_getR (pc1 := 237) (pc := 234) k_M_walks_234 rfl f_M_9 rfl (by first | exact ga G (by decide) rfl | assumption) (by first | exact gr G (by decide) rfl | assumption) ?_
                | refine T_iconst (v := (nI 2)) (pc1 := 238) (pc := 237) k_M_walks_237 rfl (by decide) ?_
                | refine T_dup2 (pc1 := 239) (pc := 238) k_M_walks_238 rfl rfl rfl ?_
                | refine T_ialdN (pc1 := 240) (pc := 239) k_M_walks_239 rfl (by first | exact ga G (by decide) rfl | assumption) (by omega) (by omega) (by first | assumption | (simp (disch := omega) only [pI_eq, pI_row, pI_col, va_up_self, va_up_ne, ne_eq, not_false_eq_true, hJN] <;> rfl) | rfl) ?_
                | refine T_iald (pc1 := 240) (pc := 239) k_M_walks_239 rfl (by first | exact ga G (by decide) rfl | assumption) (by assumption) ?_
                | refine T_iload (pc1 := 242) (pc := 240) k_M_walks_240 rfl rfl ?_
                | with_reducible refine T_iaddN (pc1 := 243) (pc := 242) k_M_walks_242 (by decide) ?_
                | refine T_iadd (pc1 := 243) (pc := 242) k_M_walks_242 rfl ?_
                | refine T_iastN (pc1 := 244) (pc := 243) k_M_walks_243 rfl (by first | exact ga G (by decide) rfl | assumption) (by omega) (by omega) ?_
                | refine T_iload (pc1 := 246) (pc := 244) k_M_walks_244 rfl rfl ?_
                | refine T_retI (pc := 246) k_M_walks_246 rfl (by first | rfl | decide | assumption) ?_)
              exact ih _ _ _ _ _ J2 _ _ (by omega) (by omega) ok1 ha ho (by omega) hJ2x hJ2N hw
            · rw [brd_agr ag] at hbr
              rw [if_neg (by rw [hbr]; decide)] at hw
              have etk : tkk (va_up N (96 + tr) (nI b)) tn b = tkk N tn b := by unfold tkk; rw [tkI_agr ag]
              have htk := tkk_eq ok hbn
              repeat' (first
                | refine T_iload_n (pc1 := 1) (pc := 0) k_M_walks_0 rfl rfl ?_
                | refine T_istore_n (pc1 := 2) (pc := 1) k_M_walks_1 rfl (Nat.le_of_ble_eq_true rfl) ?_
                | refine T_iconst (v := (nI 0)) (pc1 := 3) (pc := 2) k_M_walks_2 rfl (by decide) ?_
                | refine T_istore (pc1 := 5) (pc := 3) k_M_walks_3 rfl (Nat.le_of_ble_eq_true rfl) ?_
                | refine T_iconst (v := (nI 0)) (pc1 := 6) (pc := 5) k_M_walks_5 rfl (by decide) ?_
                | refine T_istore (pc1 := 8) (pc := 6) k_M_walks_6 rfl (Nat.le_of_ble_eq_true rfl) ?_
                | refine T_iconst (v := (nI 0)) (pc1 := 9) (pc := 8) k_M_walks_8 rfl (by decide) ?_
                | refine T_istore (pc1 := 11) (pc := 9) k_M_walks_9 rfl (Nat.le_of_ble_eq_true rfl) ?_
                | refine T_iconst (v := (nI 0)) (pc1 := 12) (pc := 11) k_M_walks_11 rfl (by decide) ?_
                | refine T_istore (pc1 := 14) (pc := 12) k_M_walks_12 rfl (Nat.le_of_ble_eq_true rfl) ?_
                | refine T_iload_n (pc1 := 16) (pc := 15) k_M_walks_15 rfl rfl ?_
                | (with_reducible refine T_icmp_eqN (tgt := 180) (pc1 := 19) (pc := 16) k_M_walks_16 (by decide) (by decide) (by omega) (by omega) (fun hc => ?_) (fun hc => ?_) <;> first | (exfalso; omega) | skip)
                | refine T_icmp_eq_t (tgt := 180) (pc := 16) k_M_walks_16 rfl (by decide) ?_
                | refine T_icmp_eq_f (tgt := 180) (pc1 := 19) (pc := 16) k_M_walks_16 rfl rfl (by decide) ?_
                | refine T_icmp_eq (tgt := 180) (pc1 := 19) (pc := 16) k_M_walks_16 rfl rfl (fun hc => ?_) (fun hc => ?_)
                | refine T_iload (pc1 := 21) (pc := 19) k_M_walks_19 rfl rfl ?_
                | (with_reducible refine T_if_neN (tgt := 180) (pc1 := 24) (pc := 21) k_M_walks_21 (by decide) (by decide) (by omega) (fun hc => ?_) (fun hc => ?_) <;> first | (exfalso; omega) | skip)
                | refine T_if_ne_t (tgt := 180) (pc := 21) k_M_walks_21 rfl (by decide) ?_
                | refine T_if_ne_f (tgt := 180) (pc1 := 24) (pc := 21) k_M_walks_21 rfl rfl (by decide) ?_
                | refine T_if_ne (tgt := 180) (pc1 := 24) (pc := 21) k_M_walks_21 rfl rfl (fun hc => ?_) (fun hc => ?_)
                | refine T_aload_n (pc1 := 25) (pc := 24) k_M_walks_24 rfl rfl ?_
                | refine T_aload_nN (pc1 := 25) (pc := 24) k_M_walks_24 rfl rfl ?_
                | refine T_iload_n (pc1 := 26) (pc := 25) k_M_walks_25 rfl rfl ?_
                | refine T_iload_n (pc1 := 27) (pc := 26) k_M_walks_26 rfl rfl ?_
                | refine T_iload (pc1 := 29) (pc := 27) k_M_walks_27 rfl rfl ?_
                | (refine T_cV (As := [_, _, _]) (d1 := 4) (pc1 := 32) (pc := 29) k_M_walks_29 rfl (by decide) (Nat.le_of_ble_eq_true rfl) rfl o_M_firstBit l_M_171 rfl (by first | exact ga G (by decide) rfl | assumption) rfl (c_M_firstBit G hJN ok hF ha ht (fun J1 hJ1 => ?_)) <;> try dsimp only [psh])
                | refine T_istore (pc1 := 34) (pc := 32) k_M_walks_32 rfl (Nat.le_of_ble_eq_true rfl) ?_
                | refine T_iload (pc1 := 36) (pc := 34) k_M_walks_34 rfl rfl ?_
                | (with_reducible refine T_if_geN (tgt := 43) (pc1 := 39) (pc := 36) k_M_walks_36 (by decide) (by decide) (by omega) ?_ <;> first | (exfalso; omega) | skip)
                | refine T_if_ge_t (tgt := 43) (pc := 36) k_M_walks_36 rfl (by decide) ?_
                | refine T_if_ge_f (tgt := 43) (pc1 := 39) (pc := 36) k_M_walks_36 rfl rfl (by decide) ?_
                | refine T_if_ge (tgt := 43) (pc1 := 39) (pc := 36) k_M_walks_36 rfl rfl (fun hc => ?_) (fun hc => ?_)
                | refine T_iconst (v := (nI 1)) (pc1 := 40) (pc := 39) k_M_walks_39 rfl (by decide) ?_
                | refine T_goto (tgt := 55) (pc := 40) k_M_walks_40 rfl ?_
                | refine T_iload (pc1 := 45) (pc := 43) k_M_walks_43 rfl rfl ?_
                | refine T_bipush (v := (nI 60)) (pc1 := 47) (pc := 45) k_M_walks_45 rfl (by decide) ?_
                | (with_reducible refine T_icmp_neN (tgt := 54) (pc1 := 50) (pc := 47) k_M_walks_47 (by decide) (by decide) (by omega) (by omega) (fun hc => ?_) (fun hc => ?_) <;> first | (exfalso; omega) | skip)
                | refine T_icmp_ne_t (tgt := 54) (pc := 47) k_M_walks_47 rfl (by decide) ?_
                | refine T_icmp_ne_f (tgt := 54) (pc1 := 50) (pc := 47) k_M_walks_47 rfl rfl (by decide) ?_
                | refine T_icmp_ne (tgt := 54) (pc1 := 50) (pc := 47) k_M_walks_47 rfl rfl (fun hc => ?_) (fun hc => ?_)
                | refine T_iconst (v := (nI 2)) (pc1 := 51) (pc := 50) k_M_walks_50 rfl (by decide) ?_
                | refine T_goto (tgt := 55) (pc := 51) k_M_walks_51 rfl ?_
                | refine T_iconst (v := (nI 0)) (pc1 := 55) (pc := 54) k_M_walks_54 rfl (by decide) ?_
                | refine T_istore (pc1 := 57) (pc := 55) k_M_walks_55 rfl (Nat.le_of_ble_eq_true rfl) ?_
                | refine T_iload (pc1 := 59) (pc := 57) k_M_walks_57 rfl rfl ?_
                | (with_reducible refine T_if_neN (tgt := 177) (pc1 := 62) (pc := 59) k_M_walks_59 (by decide) (by decide) (by omega) (fun hc => ?_) (fun hc => ?_) <;> first | (exfalso; omega) | skip)
                | refine T_if_ne_t (tgt := 177) (pc := 59) k_M_walks_59 rfl (by decide) ?_
                | refine T_if_ne_f (tgt := 177) (pc1 := 62) (pc := 59) k_M_walks_59 rfl rfl (by decide) ?_
                | refine T_if_ne (tgt := 177) (pc1 := 62) (pc := 59) k_M_walks_59 rfl rfl (fun hc => ?_) (fun hc => ?_)
                | refine T_aload_n (pc1 := 63) (pc := 62) k_M_walks_62 rfl rfl ?_
                | refine T_aload_nN (pc1 := 63) (pc := 62) k_M_walks_62 rfl rfl ?_
                | refine T_getR (pc1 := 66) (pc := 63) k_M_walks_63 rfl f_M_9 rfl (by first | exact ga G (by decide) rfl | assumption) (by first | exact gr G (by decide) rfl | assumption) ?_
                | refine T_bipush (v := (nI 96)) (pc1 := 68) (pc := 66) k_M_walks_66 rfl (by decide) ?_
                | refine T_iload (pc1 := 70) (pc := 68) k_M_walks_68 rfl rfl ?_
                | with_reducible refine T_iaddN (pc1 := 71) (pc := 70) k_M_walks_70 (by decide) ?_
                | refine T_iadd (pc1 := 71) (pc := 70) k_M_walks_70 rfl ?_
                | refine T_iload (pc1 := 73) (pc := 71) k_M_walks_71 rfl rfl ?_
                | refine T_iastN (pc1 := 74) (pc := 73) k_M_walks_73 rfl (by first | exact ga G (by decide) rfl | assumption) (by omega) (by omega) ?_
                | refine T_iincN (b := 1) (pc1 := 77) (pc := 74) k_M_walks_74 rfl rfl (by decide) ?_
                | refine T_iinc (v := (nI 1)) (pc1 := 77) (pc := 74) k_M_walks_74 rfl rfl (by decide) ?_
                | refine T_aload_n (pc1 := 78) (pc := 77) k_M_walks_77 rfl rfl ?_
                | refine T_aload_nN (pc1 := 78) (pc := 77) k_M_walks_77 rfl rfl ?_
                | refine T_iload (pc1 := 80) (pc := 78) k_M_walks_78 rfl rfl ?_
                | (refine T_cV (As := [_]) (d1 := 3) (pc1 := 83) (pc := 80) k_M_walks_80 rfl (by decide) (Nat.le_of_ble_eq_true rfl) rfl o_M_isBarred l_M_146 rfl (by first | exact ga G (by decide) rfl | assumption) rfl (c_M_isBarred G hJ2N ok1 hbn (fun hbr => ?_) (fun hbr => ?_)) <;> try dsimp only [psh])
                | (with_reducible refine T_if_eqN (tgt := 101) (pc1 := 86) (pc := 83) k_M_walks_83 (by decide) (by decide) (by omega) (fun hc => ?_) (fun hc => ?_) <;> first | (exfalso; omega) | skip)
                | refine T_if_eq_t (tgt := 101) (pc := 83) k_M_walks_83 rfl (by decide) ?_
                | refine T_if_eq_f (tgt := 101) (pc1 := 86) (pc := 83) k_M_walks_83 rfl rfl (by decide) ?_
                | refine T_if_eq (tgt := 101) (pc1 := 86) (pc := 83) k_M_walks_83 rfl rfl (fun hc => ?_) (fun hc => ?_)
                | refine T_iload (pc1 := 88) (pc := 86) k_M_walks_86 rfl rfl ?_
                | refine T_iconst (v := (nI 1)) (pc1 := 89) (pc := 88) k_M_walks_88 rfl (by decide) ?_
                | refine T_iload (pc1 := 91) (pc := 89) k_M_walks_89 rfl rfl ?_
                | refine T_ishl (pc1 := 92) (pc := 91) k_M_walks_91 rfl ?_
                | (refine T_ior (pc1 := 93) (pc := 92) k_M_walks_92 rfl ?_; rw [or_nI (by omega) (by omega)])
                | refine T_istore (pc1 := 95) (pc := 93) k_M_walks_93 rfl (Nat.le_of_ble_eq_true rfl) ?_
                | refine T_iincN (b := 1) (pc1 := 98) (pc := 95) k_M_walks_95 rfl rfl (by decide) ?_
                | refine T_iinc (v := (nI 1)) (pc1 := 98) (pc := 95) k_M_walks_95 rfl rfl (by decide) ?_
                | refine T_goto (tgt := 177) (pc := 98) k_M_walks_98 rfl ?_
                | refine T_aload_n (pc1 := 102) (pc := 101) k_M_walks_101 rfl rfl ?_
                | refine T_aload_nN (pc1 := 102) (pc := 101) k_M_walks_101 rfl rfl ?_
                | refine T_iload (pc1 := 104) (pc := 102) k_M_walks_102 rfl rfl ?_
                | (refine T_cV (As := [_]) (d1 := 4) (pc1 := 107) (pc := 104) k_M_walks_104 rfl (by decide) (Nat.le_of_ble_eq_true rfl) rfl o_M_takes l_M_143 rfl (by first | exact ga G (by decide) rfl | assumption) rfl (c_M_takesN G hJ2N ok1 hbn (fun J3 hJ3 => ?_)) <;> try dsimp only [psh])
                | refine T_iload (pc1 := 111) (pc := 109) k_M_walks_109 rfl rfl ?_
                | refine T_iload (pc1 := 113) (pc := 111) k_M_walks_111 rfl rfl ?_
                | with_reducible refine T_iaddN (pc1 := 114) (pc := 113) k_M_walks_113 (by decide) ?_
                | refine T_iadd (pc1 := 114) (pc := 113) k_M_walks_113 rfl ?_
                | refine T_istore (pc1 := 116) (pc := 114) k_M_walks_114 rfl (Nat.le_of_ble_eq_true rfl) ?_
                | refine T_aload_n (pc1 := 117) (pc := 116) k_M_walks_116 rfl rfl ?_
                | refine T_aload_nN (pc1 := 117) (pc := 116) k_M_walks_116 rfl rfl ?_
                | refine T_getR (pc1 := 120) (pc := 117) k_M_walks_117 rfl f_M_9 rfl (by first | exact ga G (by decide) rfl | assumption) (by first | exact gr G (by decide) rfl | assumption) ?_
                | refine T_bipush (v := (nI 12)) (pc1 := 122) (pc := 120) k_M_walks_120 rfl (by decide) ?_
                | refine T_bipush (v := (nI 6)) (pc1 := 124) (pc := 122) k_M_walks_122 rfl (by decide) ?_
                | refine T_iload (pc1 := 126) (pc := 124) k_M_walks_124 rfl rfl ?_
                | with_reducible refine T_imulN (pc1 := 127) (pc := 126) k_M_walks_126 (by decide) ?_
                | refine T_imul (pc1 := 127) (pc := 126) k_M_walks_126 rfl ?_
                | with_reducible refine T_iaddN (pc1 := 128) (pc := 127) k_M_walks_127 (by decide) ?_
                | refine T_iadd (pc1 := 128) (pc := 127) k_M_walks_127 rfl ?_
                | refine T_iconst (v := (nI 5)) (pc1 := 129) (pc := 128) k_M_walks_128 rfl (by decide) ?_
                | with_reducible refine T_iaddN (pc1 := 130) (pc := 129) k_M_walks_129 (by decide) ?_
                | refine T_iadd (pc1 := 130) (pc := 129) k_M_walks_129 rfl ?_
                | refine T_sipush (v := (nI 999)) (pc1 := 133) (pc := 130) k_M_walks_130 rfl (by decide) ?_
                | refine T_iload (pc1 := 135) (pc := 133) k_M_walks_133 rfl rfl ?_
                | refine T_mminV (pc1 := 138) (pc := 135) k_M_walks_135 rfl l_M_82 (by decide) (Nat.le_of_ble_eq_true rfl) (by with_reducible rfl) (by with_reducible rfl) (by omega) (by omega) ?_
                | refine T_mmin (pc1 := 138) (pc := 135) k_M_walks_135 rfl l_M_82 (by decide) (Nat.le_of_ble_eq_true rfl) ?_
                | refine T_iastN (pc1 := 139) (pc := 138) k_M_walks_138 rfl (by first | exact ga G (by decide) rfl | assumption) (by omega) (by omega) ?_
                | refine T_aload_n (pc1 := 140) (pc := 139) k_M_walks_139 rfl rfl ?_
                | refine T_aload_nN (pc1 := 140) (pc := 139) k_M_walks_139 rfl rfl ?_
                | refine T_getR (pc1 := 143) (pc := 140) k_M_walks_140 rfl f_M_9 rfl (by first | exact ga G (by decide) rfl | assumption) (by first | exact gr G (by decide) rfl | assumption) ?_
                | refine T_bipush (v := (nI 12)) (pc1 := 145) (pc := 143) k_M_walks_143 rfl (by decide) ?_
                | refine T_bipush (v := (nI 6)) (pc1 := 147) (pc := 145) k_M_walks_145 rfl (by decide) ?_
                | refine T_iload (pc1 := 149) (pc := 147) k_M_walks_147 rfl rfl ?_
                | with_reducible refine T_imulN (pc1 := 150) (pc := 149) k_M_walks_149 (by decide) ?_
                | refine T_imul (pc1 := 150) (pc := 149) k_M_walks_149 rfl ?_
                | with_reducible refine T_iaddN (pc1 := 151) (pc := 150) k_M_walks_150 (by decide) ?_
                | refine T_iadd (pc1 := 151) (pc := 150) k_M_walks_150 rfl ?_
                | refine T_iconst (v := (nI 4)) (pc1 := 152) (pc := 151) k_M_walks_151 rfl (by decide) ?_
                | with_reducible refine T_iaddN (pc1 := 153) (pc := 152) k_M_walks_152 (by decide) ?_
                | refine T_iadd (pc1 := 153) (pc := 152) k_M_walks_152 rfl ?_
                | refine T_sipush (v := (nI 999)) (pc1 := 156) (pc := 153) k_M_walks_153 rfl (by decide) ?_
                | refine T_aload_n (pc1 := 157) (pc := 156) k_M_walks_156 rfl rfl ?_
                | refine T_aload_nN (pc1 := 157) (pc := 156) k_M_walks_156 rfl rfl ?_
                | refine T_iload (pc1 := 159) (pc := 157) k_M_walks_157 rfl rfl ?_
                | refine T_iconst (v := (nI 4)) (pc1 := 160) (pc := 159) k_M_walks_159 rfl (by decide) ?_
                | (refine T_cV (As := [_, _]) (d1 := 1) (pc1 := 163) (pc := 160) k_M_walks_160 rfl (by decide) (Nat.le_of_ble_eq_true rfl) rfl o_M_bitIs l_M_124 rfl (by first | exact ga G (by decide) rfl | assumption) rfl (c_M_bitN G (by assumption) (by omega) (by omega) (by first | assumption | rfl) ?_) <;> try dsimp only [psh])
                | refine T_iconst (v := (nI 1)) (pc1 := 164) (pc := 163) k_M_walks_163 rfl (by decide) ?_
                | with_reducible refine T_iaddN (pc1 := 165) (pc := 164) k_M_walks_164 (by decide) ?_
                | refine T_iadd (pc1 := 165) (pc := 164) k_M_walks_164 rfl ?_
                | refine T_mminV (pc1 := 168) (pc := 165) k_M_walks_165 rfl l_M_82 (by decide) (Nat.le_of_ble_eq_true rfl) (by with_reducible rfl) (by with_reducible rfl) (by omega) (by omega) ?_
                | refine T_mmin (pc1 := 168) (pc := 165) k_M_walks_165 rfl l_M_82 (by decide) (Nat.le_of_ble_eq_true rfl) ?_
                | refine T_iastN (pc1 := 169) (pc := 168) k_M_walks_168 rfl (by first | exact ga G (by decide) rfl | assumption) (by omega) (by omega) ?_
                | refine T_aload_n (pc1 := 170) (pc := 169) k_M_walks_169 rfl rfl ?_
                | refine T_aload_nN (pc1 := 170) (pc := 169) k_M_walks_169 rfl rfl ?_
                | refine T_iload (pc1 := 172) (pc := 170) k_M_walks_170 rfl rfl ?_
                | refine T_iload_n (pc1 := 173) (pc := 172) k_M_walks_172 rfl rfl ?_
                | refine T_istore_n (pc1 := 177) (pc := 176) k_M_walks_176 rfl (Nat.le_of_ble_eq_true rfl) ?_
                | refine T_goto (tgt := 14) (pc := 177) k_M_walks_177 rfl ?_
                | refine T_aload_n (pc1 := 181) (pc := 180) k_M_walks_180 rfl rfl ?_
                | refine T_aload_nN (pc1 := 181) (pc := 180) k_M_walks_180 rfl rfl ?_
                | refine T_getR (pc1 := 184) (pc := 181) k_M_walks_181 rfl f_M_9 rfl (by first | exact ga G (by decide) rfl | assumption) (by first | exact gr G (by decide) rfl | assumption) ?_
                | refine T_bipush (v := (nI 7)) (pc1 := 186) (pc := 184) k_M_walks_184 rfl (by decide) ?_
                | refine T_iconst (v := (nI 1)) (pc1 := 187) (pc := 186) k_M_walks_186 rfl (by decide) ?_
                | refine T_iastN (pc1 := 188) (pc := 187) k_M_walks_187 rfl (by first | exact ga G (by decide) rfl | assumption) (by omega) (by omega) ?_
                | refine T_aload_n (pc1 := 189) (pc := 188) k_M_walks_188 rfl rfl ?_
                | refine T_aload_nN (pc1 := 189) (pc := 188) k_M_walks_188 rfl rfl ?_
                | refine T_getR (pc1 := 192) (pc := 189) k_M_walks_189 rfl f_M_9 rfl (by first | exact ga G (by decide) rfl | assumption) (by first | exact gr G (by decide) rfl | assumption) ?_
                | refine T_bipush (v := (nI 8)) (pc1 := 194) (pc := 192) k_M_walks_192 rfl (by decide) ?_
                | refine T_iload (pc1 := 196) (pc := 194) k_M_walks_194 rfl rfl ?_
                | refine T_iastN (pc1 := 197) (pc := 196) k_M_walks_196 rfl (by first | exact ga G (by decide) rfl | assumption) (by omega) (by omega) ?_
                | refine T_aload_n (pc1 := 198) (pc := 197) k_M_walks_197 rfl rfl ?_
                | refine T_aload_nN (pc1 := 198) (pc := 197) k_M_walks_197 rfl rfl ?_
                | refine T_getR (pc1 := 201) (pc := 198) k_M_walks_198 rfl f_M_9 rfl (by first | exact ga G (by decide) rfl | assumption) (by first | exact gr G (by decide) rfl | assumption) ?_
                | refine T_bipush (v := (nI 9)) (pc1 := 203) (pc := 201) k_M_walks_201 rfl (by decide) ?_
                | refine T_iload (pc1 := 205) (pc := 203) k_M_walks_203 rfl rfl ?_
                | refine T_iastN (pc1 := 206) (pc := 205) k_M_walks_205 rfl (by first | exact ga G (by decide) rfl | assumption) (by omega) (by omega) ?_
                | refine T_aload_n (pc1 := 207) (pc := 206) k_M_walks_206 rfl rfl ?_
                | refine T_aload_nN (pc1 := 207) (pc := 206) k_M_walks_206 rfl rfl ?_
                | refine T_getR (pc1 := 210) (pc := 207) k_M_walks_207 rfl f_M_9 rfl (by first | exact ga G (by decide) rfl | assumption) (by first | exact gr G (by decide) rfl | assumption) ?_
                | refine T_bipush (v := (nI 10)) (pc1 := 212) (pc := 210) k_M_walks_210 rfl (by decide) ?_
                | refine T_iload_n (pc1 := 213) (pc := 212) k_M_walks_212 rfl rfl ?_
                | refine T_iastN (pc1 := 214) (pc := 213) k_M_walks_213 rfl (by first | exact ga G (by decide) rfl | assumption) (by omega) (by omega) ?_
                | refine T_aload_n (pc1 := 215) (pc := 214) k_M_walks_214 rfl rfl ?_
                | refine T_aload_nN (pc1 := 215) (pc := 214) k_M_walks_214 rfl rfl ?_
                | refine T_getR (pc1 := 218) (pc := 215) k_M_walks_215 rfl f_M_9 rfl (by first | exact ga G (by decide) rfl | assumption) (by first | exact gr G (by decide) rfl | assumption) ?_
                | refine T_bipush (v := (nI 11)) (pc1 := 220) (pc := 218) k_M_walks_218 rfl (by decide) ?_
                | refine T_iload (pc1 := 222) (pc := 220) k_M_walks_220 rfl rfl ?_
                | refine T_iastN (pc1 := 223) (pc := 222) k_M_walks_222 rfl (by first | exact ga G (by decide) rfl | assumption) (by omega) (by omega) ?_
                | refine T_aload_n (pc1 := 224) (pc := 223) k_M_walks_223 rfl rfl ?_
                | refine T_aload_nN (pc1 := 224) (pc := 223) k_M_walks_223 rfl rfl ?_
                | refine T_getR (pc1 := 227) (pc := 224) k_M_walks_224 rfl f_M_9 rfl (by first | exact ga G (by decide) rfl | assumption) (by first | exact gr G (by decide) rfl | assumption) ?_
                | refine T_iconst (v := (nI 1)) (pc1 := 228) (pc := 227) k_M_walks_227 rfl (by decide) ?_
                | refine T_dup2 (pc1 := 229) (pc := 228) k_M_walks_228 rfl rfl rfl ?_
                | refine T_ialdN (pc1 := 230) (pc := 229) k_M_walks_229 rfl (by first | exact ga G (by decide) rfl | assumption) (by omega) (by omega) (by first | assumption | (simp (disch := omega) only [pI_eq, pI_row, pI_col, va_up_self, va_up_ne, ne_eq, not_false_eq_true, hJN] <;> rfl) | rfl) ?_
                | refine T_iald (pc1 := 230) (pc := 229) k_M_walks_229 rfl (by first | exact ga G (by decide) rfl | assumption) (by assumption) ?_
                | refine T_iconst (v := (nI 1)) (pc1 := 231) (pc := 230) k_M_walks_230 rfl (by decide) ?_
                | with_reducible refine T_iaddN (pc1 := 232) (pc := 231) k_M_walks_231 (by decide) ?_
                | refine T_iadd (pc1 := 232) (pc := 231) k_M_walks_231 rfl ?_
                | refine T_iastN (pc1 := 233) (pc := 232) k_M_walks_232 rfl (by first | exact ga G (by decide) rfl | assumption) (by omega) (by omega) ?_
                | refine T_aload_n (pc1 := 234) (pc := 233) k_M_walks_233 rfl rfl ?_
                | refine T_aload_nN (pc1 := 234) (pc := 233) k_M_walks_233 rfl rfl ?_
                | refine T_getR (pc1 := 237) (pc := 234) k_M_walks_234 rfl f_M_9 rfl (by first | exact ga G (by decide) rfl | assumption) (by first | exact gr G (by decide) rfl | assumption) ?_
                | refine T_iconst (v := (nI 2)) (pc1 := 238) (pc := 237) k_M_walks_237 rfl (by decide) ?_
                | refine T_dup2 (pc1 := 239) (pc := 238) k_M_walks_238 rfl rfl rfl ?_
                | refine T_ialdN (pc1 := 240) (pc := 239) k_M_walks_239 rfl (by first | exact ga G (by decide) rfl | assumption) (by omega) (by omega) (by first | assumption | (simp (disch := omega) only [pI_eq, pI_row, pI_col, va_up_self, va_up_ne, ne_eq, not_false_eq_true, hJN] <;> rfl) | rfl) ?_
                | refine T_iald (pc1 := 240) (pc := 239) k_M_walks_239 rfl (by first | exact ga G (by decide) rfl | assumption) (by assumption) ?_
                | refine T_iload (pc1 := 242) (pc := 240) k_M_walks_240 rfl rfl ?_
                | with_reducible refine T_iaddN (pc1 := 243) (pc := 242) k_M_walks_242 (by decide) ?_
                | refine T_iadd (pc1 := 243) (pc := 242) k_M_walks_242 rfl ?_
                | refine T_iastN (pc1 := 244) (pc := 243) k_M_walks_243 rfl (by first | exact ga G (by decide) rfl | assumption) (by omega) (by omega) ?_
                | refine T_iload (pc1 := 246) (pc := 244) k_M_walks_244 rfl rfl ?_
                | refine T_retI (pc := 246) k_M_walks_246 rfl (by first | rfl | decide | assumption) ?_)
              rw [etk]
              have hJ3N := (hJ3 102 (by decide)).trans hJ2N
              obtain ⟨kq, oq, tq, lq, rq, -, -, a1, a1', a2, a2', ane, -, -, -, a4, a4', -⟩ := ok.2.2.2.2.1 b hbn
              have a4r : ∀ x, pI J3 102 (12 + 6 * b + 5) x 102 (12 + 6 * b + 4) = nI rq := by
                intro x
                rw [pI_col (by omega), hJ3N, va_up_ne _ _ (by omega)]
                exact a4
              repeat' (first
                | refine T_iload_n (pc1 := 1) (pc := 0) k_M_walks_0 rfl rfl ?_
                | refine T_istore_n (pc1 := 2) (pc := 1) k_M_walks_1 rfl (Nat.le_of_ble_eq_true rfl) ?_
                | refine T_iconst (v := (nI 0)) (pc1 := 3) (pc := 2) k_M_walks_2 rfl (by decide) ?_
                | refine T_istore (pc1 := 5) (pc := 3) k_M_walks_3 rfl (Nat.le_of_ble_eq_true rfl) ?_
                | refine T_iconst (v := (nI 0)) (pc1 := 6) (pc := 5) k_M_walks_5 rfl (by decide) ?_
                | refine T_istore (pc1 := 8) (pc := 6) k_M_walks_6 rfl (Nat.le_of_ble_eq_true rfl) ?_
                | refine T_iconst (v := (nI 0)) (pc1 := 9) (pc := 8) k_M_walks_8 rfl (by decide) ?_
                | refine T_istore (pc1 := 11) (pc := 9) k_M_walks_9 rfl (Nat.le_of_ble_eq_true rfl) ?_
                | refine T_iconst (v := (nI 0)) (pc1 := 12) (pc := 11) k_M_walks_11 rfl (by decide) ?_
                | refine T_istore (pc1 := 14) (pc := 12) k_M_walks_12 rfl (Nat.le_of_ble_eq_true rfl) ?_
                | refine T_iload_n (pc1 := 16) (pc := 15) k_M_walks_15 rfl rfl ?_
                | (with_reducible refine T_icmp_eqN (tgt := 180) (pc1 := 19) (pc := 16) k_M_walks_16 (by decide) (by decide) (by omega) (by omega) (fun hc => ?_) (fun hc => ?_) <;> first | (exfalso; omega) | skip)
                | refine T_icmp_eq_t (tgt := 180) (pc := 16) k_M_walks_16 rfl (by decide) ?_
                | refine T_icmp_eq_f (tgt := 180) (pc1 := 19) (pc := 16) k_M_walks_16 rfl rfl (by decide) ?_
                | refine T_icmp_eq (tgt := 180) (pc1 := 19) (pc := 16) k_M_walks_16 rfl rfl (fun hc => ?_) (fun hc => ?_)
                | refine T_iload (pc1 := 21) (pc := 19) k_M_walks_19 rfl rfl ?_
                | (with_reducible refine T_if_neN (tgt := 180) (pc1 := 24) (pc := 21) k_M_walks_21 (by decide) (by decide) (by omega) (fun hc => ?_) (fun hc => ?_) <;> first | (exfalso; omega) | skip)
                | refine T_if_ne_t (tgt := 180) (pc := 21) k_M_walks_21 rfl (by decide) ?_
                | refine T_if_ne_f (tgt := 180) (pc1 := 24) (pc := 21) k_M_walks_21 rfl rfl (by decide) ?_
                | refine T_if_ne (tgt := 180) (pc1 := 24) (pc := 21) k_M_walks_21 rfl rfl (fun hc => ?_) (fun hc => ?_)
                | refine T_aload_n (pc1 := 25) (pc := 24) k_M_walks_24 rfl rfl ?_
                | refine T_aload_nN (pc1 := 25) (pc := 24) k_M_walks_24 rfl rfl ?_
                | refine T_iload_n (pc1 := 26) (pc := 25) k_M_walks_25 rfl rfl ?_
                | refine T_iload_n (pc1 := 27) (pc := 26) k_M_walks_26 rfl rfl ?_
                | refine T_iload (pc1 := 29) (pc := 27) k_M_walks_27 rfl rfl ?_
                | (refine T_cV (As := [_, _, _]) (d1 := 4) (pc1 := 32) (pc := 29) k_M_walks_29 rfl (by decide) (Nat.le_of_ble_eq_true rfl) rfl o_M_firstBit l_M_171 rfl (by first | exact ga G (by decide) rfl | assumption) rfl (c_M_firstBit G hJN ok hF ha ht (fun J1 hJ1 => ?_)) <;> try dsimp only [psh])
                | refine T_istore (pc1 := 34) (pc := 32) k_M_walks_32 rfl (Nat.le_of_ble_eq_true rfl) ?_
                | refine T_iload (pc1 := 36) (pc := 34) k_M_walks_34 rfl rfl ?_
                | (with_reducible refine T_if_geN (tgt := 43) (pc1 := 39) (pc := 36) k_M_walks_36 (by decide) (by decide) (by omega) ?_ <;> first | (exfalso; omega) | skip)
                | refine T_if_ge_t (tgt := 43) (pc := 36) k_M_walks_36 rfl (by decide) ?_
                | refine T_if_ge_f (tgt := 43) (pc1 := 39) (pc := 36) k_M_walks_36 rfl rfl (by decide) ?_
                | refine T_if_ge (tgt := 43) (pc1 := 39) (pc := 36) k_M_walks_36 rfl rfl (fun hc => ?_) (fun hc => ?_)
                | refine T_iconst (v := (nI 1)) (pc1 := 40) (pc := 39) k_M_walks_39 rfl (by decide) ?_
                | refine T_goto (tgt := 55) (pc := 40) k_M_walks_40 rfl ?_
                | refine T_iload (pc1 := 45) (pc := 43) k_M_walks_43 rfl rfl ?_
                | refine T_bipush (v := (nI 60)) (pc1 := 47) (pc := 45) k_M_walks_45 rfl (by decide) ?_
                | (with_reducible refine T_icmp_neN (tgt := 54) (pc1 := 50) (pc := 47) k_M_walks_47 (by decide) (by decide) (by omega) (by omega) (fun hc => ?_) (fun hc => ?_) <;> first | (exfalso; omega) | skip)
                | refine T_icmp_ne_t (tgt := 54) (pc := 47) k_M_walks_47 rfl (by decide) ?_
                | refine T_icmp_ne_f (tgt := 54) (pc1 := 50) (pc := 47) k_M_walks_47 rfl rfl (by decide) ?_
                | refine T_icmp_ne (tgt := 54) (pc1 := 50) (pc := 47) k_M_walks_47 rfl rfl (fun hc => ?_) (fun hc => ?_)
                | refine T_iconst (v := (nI 2)) (pc1 := 51) (pc := 50) k_M_walks_50 rfl (by decide) ?_
                | refine T_goto (tgt := 55) (pc := 51) k_M_walks_51 rfl ?_
                | refine T_iconst (v := (nI 0)) (pc1 := 55) (pc := 54) k_M_walks_54 rfl (by decide) ?_
                | refine T_istore (pc1 := 57) (pc := 55) k_M_walks_55 rfl (Nat.le_of_ble_eq_true rfl) ?_
                | refine T_iload (pc1 := 59) (pc := 57) k_M_walks_57 rfl rfl ?_
                | (with_reducible refine T_if_neN (tgt := 177) (pc1 := 62) (pc := 59) k_M_walks_59 (by decide) (by decide) (by omega) (fun hc => ?_) (fun hc => ?_) <;> first | (exfalso; omega) | skip)
                | refine T_if_ne_t (tgt := 177) (pc := 59) k_M_walks_59 rfl (by decide) ?_
                | refine T_if_ne_f (tgt := 177) (pc1 := 62) (pc := 59) k_M_walks_59 rfl rfl (by decide) ?_
                | refine T_if_ne (tgt := 177) (pc1 := 62) (pc := 59) k_M_walks_59 rfl rfl (fun hc => ?_) (fun hc => ?_)
                | refine T_aload_n (pc1 := 63) (pc := 62) k_M_walks_62 rfl rfl ?_
                | refine T_aload_nN (pc1 := 63) (pc := 62) k_M_walks_62 rfl rfl ?_
                | refine T_getR (pc1 := 66) (pc := 63) k_M_walks_63 rfl f_M_9 rfl (by first | exact ga G (by decide) rfl | assumption) (by first | exact gr G (by decide) rfl | assumption) ?_
                | refine T_bipush (v := (nI 96)) (pc1 := 68) (pc := 66) k_M_walks_66 rfl (by decide) ?_
                | refine T_iload (pc1 := 70) (pc := 68) k_M_walks_68 rfl rfl ?_
                | with_reducible refine T_iaddN (pc1 := 71) (pc := 70) k_M_walks_70 (by decide) ?_
                | refine T_iadd (pc1 := 71) (pc := 70) k_M_walks_70 rfl ?_
                | refine T_iload (pc1 := 73) (pc := 71) k_M_walks_71 rfl rfl ?_
                | refine T_iastN (pc1 := 74) (pc := 73) k_M_walks_73 rfl (by first | exact ga G (by decide) rfl | assumption) (by omega) (by omega) ?_
                | refine T_iincN (b := 1) (pc1 := 77) (pc := 74) k_M_walks_74 rfl rfl (by decide) ?_
                | refine T_iinc (v := (nI 1)) (pc1 := 77) (pc := 74) k_M_walks_74 rfl rfl (by decide) ?_
                | refine T_aload_n (pc1 := 78) (pc := 77) k_M_walks_77 rfl rfl ?_
                | refine T_aload_nN (pc1 := 78) (pc := 77) k_M_walks_77 rfl rfl ?_
                | refine T_iload (pc1 := 80) (pc := 78) k_M_walks_78 rfl rfl ?_
                | (refine T_cV (As := [_]) (d1 := 3) (pc1 := 83) (pc := 80) k_M_walks_80 rfl (by decide) (Nat.le_of_ble_eq_true rfl) rfl o_M_isBarred l_M_146 rfl (by first | exact ga G (by decide) rfl | assumption) rfl (c_M_isBarred G hJ2N ok1 hbn (fun hbr => ?_) (fun hbr => ?_)) <;> try dsimp only [psh])
                | (with_reducible refine T_if_eqN (tgt := 101) (pc1 := 86) (pc := 83) k_M_walks_83 (by decide) (by decide) (by omega) (fun hc => ?_) (fun hc => ?_) <;> first | (exfalso; omega) | skip)
                | refine T_if_eq_t (tgt := 101) (pc := 83) k_M_walks_83 rfl (by decide) ?_
                | refine T_if_eq_f (tgt := 101) (pc1 := 86) (pc := 83) k_M_walks_83 rfl rfl (by decide) ?_
                | refine T_if_eq (tgt := 101) (pc1 := 86) (pc := 83) k_M_walks_83 rfl rfl (fun hc => ?_) (fun hc => ?_)
                | refine T_iload (pc1 := 88) (pc := 86) k_M_walks_86 rfl rfl ?_
                | refine T_iconst (v := (nI 1)) (pc1 := 89) (pc := 88) k_M_walks_88 rfl (by decide) ?_
                | refine T_iload (pc1 := 91) (pc := 89) k_M_walks_89 rfl rfl ?_
                | refine T_ishl (pc1 := 92) (pc := 91) k_M_walks_91 rfl ?_
                | (refine T_ior (pc1 := 93) (pc := 92) k_M_walks_92 rfl ?_; rw [or_nI (by omega) (by omega)])
                | refine T_istore (pc1 := 95) (pc := 93) k_M_walks_93 rfl (Nat.le_of_ble_eq_true rfl) ?_
                | refine T_iincN (b := 1) (pc1 := 98) (pc := 95) k_M_walks_95 rfl rfl (by decide) ?_
                | refine T_iinc (v := (nI 1)) (pc1 := 98) (pc := 95) k_M_walks_95 rfl rfl (by decide) ?_
                | refine T_goto (tgt := 177) (pc := 98) k_M_walks_98 rfl ?_
                | refine T_aload_n (pc1 := 102) (pc := 101) k_M_walks_101 rfl rfl ?_
                | refine T_aload_nN (pc1 := 102) (pc := 101) k_M_walks_101 rfl rfl ?_
                | refine T_iload (pc1 := 104) (pc := 102) k_M_walks_102 rfl rfl ?_
                | (refine T_cV (As := [_]) (d1 := 4) (pc1 := 107) (pc := 104) k_M_walks_104 rfl (by decide) (Nat.le_of_ble_eq_true rfl) rfl o_M_takes l_M_143 rfl (by first | exact ga G (by decide) rfl | assumption) rfl (c_M_takesN G hJ2N ok1 hbn (fun J3 hJ3 => ?_)) <;> try dsimp only [psh])
                | refine T_istore (pc1 := 109) (pc := 107) k_M_walks_107 rfl (Nat.le_of_ble_eq_true rfl) ?_
                | refine T_iload (pc1 := 111) (pc := 109) k_M_walks_109 rfl rfl ?_
                | refine T_iload (pc1 := 113) (pc := 111) k_M_walks_111 rfl rfl ?_
                | with_reducible refine T_iaddN (pc1 := 114) (pc := 113) k_M_walks_113 (by decide) ?_
                | refine T_iadd (pc1 := 114) (pc := 113) k_M_walks_113 rfl ?_
                | refine T_istore (pc1 := 116) (pc := 114) k_M_walks_114 rfl (Nat.le_of_ble_eq_true rfl) ?_
                | refine T_aload_n (pc1 := 117) (pc := 116) k_M_walks_116 rfl rfl ?_
                | refine T_aload_nN (pc1 := 117) (pc := 116) k_M_walks_116 rfl rfl ?_
                | refine T_getR (pc1 := 120) (pc := 117) k_M_walks_117 rfl f_M_9 rfl (by first | exact ga G (by decide) rfl | assumption) (by first | exact gr G (by decide) rfl | assumption) ?_
                | refine T_bipush (v := (nI 12)) (pc1 := 122) (pc := 120) k_M_walks_120 rfl (by decide) ?_
                | refine T_bipush (v := (nI 6)) (pc1 := 124) (pc := 122) k_M_walks_122 rfl (by decide) ?_
                | refine T_iload (pc1 := 126) (pc := 124) k_M_walks_124 rfl rfl ?_
                | with_reducible refine T_imulN (pc1 := 127) (pc := 126) k_M_walks_126 (by decide) ?_
                | refine T_imul (pc1 := 127) (pc := 126) k_M_walks_126 rfl ?_
                | with_reducible refine T_iaddN (pc1 := 128) (pc := 127) k_M_walks_127 (by decide) ?_
                | refine T_iadd (pc1 := 128) (pc := 127) k_M_walks_127 rfl ?_
                | refine T_iconst (v := (nI 5)) (pc1 := 129) (pc := 128) k_M_walks_128 rfl (by decide) ?_
                | with_reducible refine T_iaddN (pc1 := 130) (pc := 129) k_M_walks_129 (by decide) ?_
                | refine T_iadd (pc1 := 130) (pc := 129) k_M_walks_129 rfl ?_
                | refine T_sipush (v := (nI 999)) (pc1 := 133) (pc := 130) k_M_walks_130 rfl (by decide) ?_
                | refine T_iload (pc1 := 135) (pc := 133) k_M_walks_133 rfl rfl ?_
                | refine T_mminV (pc1 := 138) (pc := 135) k_M_walks_135 rfl l_M_82 (by decide) (Nat.le_of_ble_eq_true rfl) (by with_reducible rfl) (by with_reducible rfl) (by omega) (by omega) ?_
                | refine T_mmin (pc1 := 138) (pc := 135) k_M_walks_135 rfl l_M_82 (by decide) (Nat.le_of_ble_eq_true rfl) ?_
                | refine T_iastN (pc1 := 139) (pc := 138) k_M_walks_138 rfl (by first | exact ga G (by decide) rfl | assumption) (by omega) (by omega) ?_
                | refine T_aload_n (pc1 := 140) (pc := 139) k_M_walks_139 rfl rfl ?_
                | refine T_aload_nN (pc1 := 140) (pc := 139) k_M_walks_139 rfl rfl ?_
                | refine T_getR (pc1 := 143) (pc := 140) k_M_walks_140 rfl f_M_9 rfl (by first | exact ga G (by decide) rfl | assumption) (by first | exact gr G (by decide) rfl | assumption) ?_
                | refine T_bipush (v := (nI 12)) (pc1 := 145) (pc := 143) k_M_walks_143 rfl (by decide) ?_
                | refine T_bipush (v := (nI 6)) (pc1 := 147) (pc := 145) k_M_walks_145 rfl (by decide) ?_
                | refine T_iload (pc1 := 149) (pc := 147) k_M_walks_147 rfl rfl ?_
                | with_reducible refine T_imulN (pc1 := 150) (pc := 149) k_M_walks_149 (by decide) ?_
                | refine T_imul (pc1 := 150) (pc := 149) k_M_walks_149 rfl ?_
                | with_reducible refine T_iaddN (pc1 := 151) (pc := 150) k_M_walks_150 (by decide) ?_
                | refine T_iadd (pc1 := 151) (pc := 150) k_M_walks_150 rfl ?_
                | refine T_iconst (v := (nI 4)) (pc1 := 152) (pc := 151) k_M_walks_151 rfl (by decide) ?_
                | with_reducible refine T_iaddN (pc1 := 153) (pc := 152) k_M_walks_152 (by decide) ?_
                | refine T_iadd (pc1 := 153) (pc := 152) k_M_walks_152 rfl ?_
                | refine T_sipush (v := (nI 999)) (pc1 := 156) (pc := 153) k_M_walks_153 rfl (by decide) ?_
                | refine T_aload_n (pc1 := 157) (pc := 156) k_M_walks_156 rfl rfl ?_
                | refine T_aload_nN (pc1 := 157) (pc := 156) k_M_walks_156 rfl rfl ?_
                | refine T_iload (pc1 := 159) (pc := 157) k_M_walks_157 rfl rfl ?_
                | refine T_iconst (v := (nI 4)) (pc1 := 160) (pc := 159) k_M_walks_159 rfl (by decide) ?_
                | (refine T_cV (As := [_, _]) (d1 := 1) (pc1 := 163) (pc := 160) k_M_walks_160 rfl (by decide) (Nat.le_of_ble_eq_true rfl) rfl o_M_bitIs l_M_124 rfl (by first | exact ga G (by decide) rfl | assumption) rfl (c_M_bitIs G (by omega) (by omega) (a4r _) ?_) <;> try dsimp only [psh])
                | refine T_iconst (v := (nI 1)) (pc1 := 164) (pc := 163) k_M_walks_163 rfl (by decide) ?_
                | with_reducible refine T_iaddN (pc1 := 165) (pc := 164) k_M_walks_164 (by decide) ?_
                | refine T_iadd (pc1 := 165) (pc := 164) k_M_walks_164 rfl ?_
                | refine T_mminV (pc1 := 168) (pc := 165) k_M_walks_165 rfl l_M_82 (by decide) (Nat.le_of_ble_eq_true rfl) (by with_reducible rfl) (by with_reducible rfl) (by omega) (by omega) ?_
                | refine T_mmin (pc1 := 168) (pc := 165) k_M_walks_165 rfl l_M_82 (by decide) (Nat.le_of_ble_eq_true rfl) ?_
                | refine T_iastN (pc1 := 169) (pc := 168) k_M_walks_168 rfl (by first | exact ga G (by decide) rfl | assumption) (by omega) (by omega) ?_
                | refine T_iload (pc1 := 172) (pc := 170) k_M_walks_170 rfl rfl ?_
                | refine T_iload_n (pc1 := 173) (pc := 172) k_M_walks_172 rfl rfl ?_
                | refine T_istore_n (pc1 := 177) (pc := 176) k_M_walks_176 rfl (Nat.le_of_ble_eq_true rfl) ?_
                | refine T_goto (tgt := 14) (pc := 177) k_M_walks_177 rfl ?_
                | refine T_aload_n (pc1 := 181) (pc := 180) k_M_walks_180 rfl rfl ?_
                | refine T_aload_nN (pc1 := 181) (pc := 180) k_M_walks_180 rfl rfl ?_
                | refine T_getR (pc1 := 184) (pc := 181) k_M_walks_181 rfl f_M_9 rfl (by first | exact ga G (by decide) rfl | assumption) (by first | exact gr G (by decide) rfl | assumption) ?_
                | refine T_bipush (v := (nI 7)) (pc1 := 186) (pc := 184) k_M_walks_184 rfl (by decide) ?_
                | refine T_iconst (v := (nI 1)) (pc1 := 187) (pc := 186) k_M_walks_186 rfl (by decide) ?_
                | refine T_iastN (pc1 := 188) (pc := 187) k_M_walks_187 rfl (by first | exact ga G (by decide) rfl | assumption) (by omega) (by omega) ?_
                | refine T_aload_n (pc1 := 189) (pc := 188) k_M_walks_188 rfl rfl ?_
                | refine T_aload_nN (pc1 := 189) (pc := 188) k_M_walks_188 rfl rfl ?_
                | refine T_getR (pc1 := 192) (pc := 189) k_M_walks_189 rfl f_M_9 rfl (by first | exact ga G (by decide) rfl | assumption) (by first | exact gr G (by decide) rfl | assumption) ?_
                | refine T_bipush (v := (nI 8)) (pc1 := 194) (pc := 192) k_M_walks_192 rfl (by decide) ?_
                | refine T_iload (pc1 := 196) (pc := 194) k_M_walks_194 rfl rfl ?_
                | refine T_iastN (pc1 := 197) (pc := 196) k_M_walks_196 rfl (by first | exact ga G (by decide) rfl | assumption) (by omega) (by omega) ?_
                | refine T_aload_n (pc1 := 198) (pc := 197) k_M_walks_197 rfl rfl ?_
                | refine T_aload_nN (pc1 := 198) (pc := 197) k_M_walks_197 rfl rfl ?_
                | refine T_getR (pc1 := 201) (pc := 198) k_M_walks_198 rfl f_M_9 rfl (by first | exact ga G (by decide) rfl | assumption) (by first | exact gr G (by decide) rfl | assumption) ?_
                | refine T_bipush (v := (nI 9)) (pc1 := 203) (pc := 201) k_M_walks_201 rfl (by decide) ?_
                | refine T_iload (pc1 := 205) (pc := 203) k_M_walks_203 rfl rfl ?_
                | refine T_iastN (pc1 := 206) (pc := 205) k_M_walks_205 rfl (by first | exact ga G (by decide) rfl | assumption) (by omega) (by omega) ?_
                | refine T_aload_n (pc1 := 207) (pc := 206) k_M_walks_206 rfl rfl ?_
                | refine T_aload_nN (pc1 := 207) (pc := 206) k_M_walks_206 rfl rfl ?_
                | refine T_getR (pc1 := 210) (pc := 207) k_M_walks_207 rfl f_M_9 rfl (by first | exact ga G (by decide) rfl | assumption) (by first | exact gr G (by decide) rfl | assumption) ?_
                | refine T_bipush (v := (nI 10)) (pc1 := 212) (pc := 210) k_M_walks_210 rfl (by decide) ?_
                | refine T_iload_n (pc1 := 213) (pc := 212) k_M_walks_212 rfl rfl ?_
                | refine T_iastN (pc1 := 214) (pc := 213) k_M_walks_213 rfl (by first | exact ga G (by decide) rfl | assumption) (by omega) (by omega) ?_
                | refine T_aload_n (pc1 := 215) (pc := 214) k_M_walks_214 rfl rfl ?_
                | refine T_aload_nN (pc1 := 215) (pc := 214) k_M_walks_214 rfl rfl ?_
                | refine T_getR (pc1 := 218) (pc := 215) k_M_walks_215 rfl f_M_9 rfl (by first | exact ga G (by decide) rfl | assumption) (by first | exact gr G (by decide) rfl | assumption) ?_
                | refine T_bipush (v := (nI 11)) (pc1 := 220) (pc := 218) k_M_walks_218 rfl (by decide) ?_
                | refine T_iload (pc1 := 222) (pc := 220) k_M_walks_220 rfl rfl ?_
                | refine T_iastN (pc1 := 223) (pc := 222) k_M_walks_222 rfl (by first | exact ga G (by decide) rfl | assumption) (by omega) (by omega) ?_
                | refine T_aload_n (pc1 := 224) (pc := 223) k_M_walks_223 rfl rfl ?_
                | refine T_aload_nN (pc1 := 224) (pc := 223) k_M_walks_223 rfl rfl ?_
                | refine T_getR (pc1 := 227) (pc := 224) k_M_walks_224 rfl f_M_9 rfl (by first | exact ga G (by decide) rfl | assumption) (by first | exact gr G (by decide) rfl | assumption) ?_
                | refine T_iconst (v := (nI 1)) (pc1 := 228) (pc := 227) k_M_walks_227 rfl (by decide) ?_
                | refine T_dup2 (pc1 := 229) (pc := 228) k_M_walks_228 rfl rfl rfl ?_
                | refine T_ialdN (pc1 := 230) (pc := 229) k_M_walks_229 rfl (by first | exact ga G (by decide) rfl | assumption) (by omega) (by omega) (by first | assumption | (simp (disch := omega) only [pI_eq, pI_row, pI_col, va_up_self, va_up_ne, ne_eq, not_false_eq_true, hJN] <;> rfl) | rfl) ?_
                | refine T_iald (pc1 := 230) (pc := 229) k_M_walks_229 rfl (by first | exact ga G (by decide) rfl | assumption) (by assumption) ?_
                | refine T_iconst (v := (nI 1)) (pc1 := 231) (pc := 230) k_M_walks_230 rfl (by decide) ?_
                | with_reducible refine T_iaddN (pc1 := 232) (pc := 231) k_M_walks_231 (by decide) ?_
                | refine T_iadd (pc1 := 232) (pc := 231) k_M_walks_231 rfl ?_
                | refine T_iastN (pc1 := 233) (pc := 232) k_M_walks_232 rfl (by first | exact ga G (by decide) rfl | assumption) (by omega) (by omega) ?_
                | refine T_aload_n (pc1 := 234) (pc := 233) k_M_walks_233 rfl rfl ?_
                | refine T_aload_nN (pc1 := 234) (pc := 233) k_M_walks_233 rfl rfl ?_
                | refine T_getR (pc1 := 237) (pc := 234) k_M_walks_234 rfl f_M_9 rfl (by first | exact ga G (by decide) rfl | assumption) (by first | exact gr G (by decide) rfl | assumption) ?_
                | refine T_iconst (v := (nI 2)) (pc1 := 238) (pc := 237) k_M_walks_237 rfl (by decide) ?_
                | refine T_dup2 (pc1 := 239) (pc := 238) k_M_walks_238 rfl rfl rfl ?_
                | refine T_ialdN (pc1 := 240) (pc := 239) k_M_walks_239 rfl (by first | exact ga G (by decide) rfl | assumption) (by omega) (by omega) (by first | assumption | (simp (disch := omega) only [pI_eq, pI_row, pI_col, va_up_self, va_up_ne, ne_eq, not_false_eq_true, hJN] <;> rfl) | rfl) ?_
                | refine T_iald (pc1 := 240) (pc := 239) k_M_walks_239 rfl (by first | exact ga G (by decide) rfl | assumption) (by assumption) ?_
                | refine T_iload (pc1 := 242) (pc := 240) k_M_walks_240 rfl rfl ?_
                | with_reducible refine T_iaddN (pc1 := 243) (pc := 242) k_M_walks_242 (by decide) ?_
                | refine T_iadd (pc1 := 243) (pc := 242) k_M_walks_242 rfl ?_
                | refine T_iastN (pc1 := 244) (pc := 243) k_M_walks_243 rfl (by first | exact ga G (by decide) rfl | assumption) (by omega) (by omega) ?_
                | refine T_iload (pc1 := 246) (pc := 244) k_M_walks_244 rfl rfl ?_
                | refine T_retI (pc := 246) k_M_walks_246 rfl (by first | rfl | decide | assumption) ?_)
              have hrow : pI (pI J3 102 (12 + 6 * b + 5) (nI (min 999 (tkk N tn b)))) 102 (12 + 6 * b + 4) (nI (min 999 (rq + 1))) 102 = goN N tn b tr := by
                rw [upI (upI hJ3N), goN, a4, trod_eq a4']
              have hx5 : eqx [102, 105, 106, 112, 113] I (pI (pI J3 102 (12 + 6 * b + 5) (nI (min 999 (tkk N tn b)))) 102 (12 + 6 * b + 4) (nI (min 999 (rq + 1)))) := eqx_pI (eqx_pI (eqx_tr hJ2x (eqx_mono hJ3 (by decide))) _ (by decide)) _ (by decide)
              have ok5 := okL_go (tr := tr) ok hbn (by omega)
              have ed5 : ed (goN N tn b tr) b = ed N b := by
                unfold ed
                rw [goN_bf (by omega) (by omega) (by decide) (Or.inr (by decide)), goN_bf (by omega) (by omega) (by decide) (Or.inr (by decide))]
              repeat' (first
                | refine T_iload_n (pc1 := 1) (pc := 0) k_M_walks_0 rfl rfl ?_
                | refine T_istore_n (pc1 := 2) (pc := 1) k_M_walks_1 rfl (Nat.le_of_ble_eq_true rfl) ?_
                | refine T_iconst (v := (nI 0)) (pc1 := 3) (pc := 2) k_M_walks_2 rfl (by decide) ?_
                | refine T_istore (pc1 := 5) (pc := 3) k_M_walks_3 rfl (Nat.le_of_ble_eq_true rfl) ?_
                | refine T_iconst (v := (nI 0)) (pc1 := 6) (pc := 5) k_M_walks_5 rfl (by decide) ?_
                | refine T_istore (pc1 := 8) (pc := 6) k_M_walks_6 rfl (Nat.le_of_ble_eq_true rfl) ?_
                | refine T_iconst (v := (nI 0)) (pc1 := 9) (pc := 8) k_M_walks_8 rfl (by decide) ?_
                | refine T_istore (pc1 := 11) (pc := 9) k_M_walks_9 rfl (Nat.le_of_ble_eq_true rfl) ?_
                | refine T_iconst (v := (nI 0)) (pc1 := 12) (pc := 11) k_M_walks_11 rfl (by decide) ?_
                | refine T_istore (pc1 := 14) (pc := 12) k_M_walks_12 rfl (Nat.le_of_ble_eq_true rfl) ?_
                | refine T_iload_n (pc1 := 16) (pc := 15) k_M_walks_15 rfl rfl ?_
                | (with_reducible refine T_icmp_eqN (tgt := 180) (pc1 := 19) (pc := 16) k_M_walks_16 (by decide) (by decide) (by omega) (by omega) (fun hc => ?_) (fun hc => ?_) <;> first | (exfalso; omega) | skip)
                | refine T_icmp_eq_t (tgt := 180) (pc := 16) k_M_walks_16 rfl (by decide) ?_
                | refine T_icmp_eq_f (tgt := 180) (pc1 := 19) (pc := 16) k_M_walks_16 rfl rfl (by decide) ?_
                | refine T_icmp_eq (tgt := 180) (pc1 := 19) (pc := 16) k_M_walks_16 rfl rfl (fun hc => ?_) (fun hc => ?_)
                | refine T_iload (pc1 := 21) (pc := 19) k_M_walks_19 rfl rfl ?_
                | (with_reducible refine T_if_neN (tgt := 180) (pc1 := 24) (pc := 21) k_M_walks_21 (by decide) (by decide) (by omega) (fun hc => ?_) (fun hc => ?_) <;> first | (exfalso; omega) | skip)
                | refine T_if_ne_t (tgt := 180) (pc := 21) k_M_walks_21 rfl (by decide) ?_
                | refine T_if_ne_f (tgt := 180) (pc1 := 24) (pc := 21) k_M_walks_21 rfl rfl (by decide) ?_
                | refine T_if_ne (tgt := 180) (pc1 := 24) (pc := 21) k_M_walks_21 rfl rfl (fun hc => ?_) (fun hc => ?_)
                | refine T_aload_n (pc1 := 25) (pc := 24) k_M_walks_24 rfl rfl ?_
                | refine T_aload_nN (pc1 := 25) (pc := 24) k_M_walks_24 rfl rfl ?_
                | refine T_iload_n (pc1 := 26) (pc := 25) k_M_walks_25 rfl rfl ?_
                | refine T_iload_n (pc1 := 27) (pc := 26) k_M_walks_26 rfl rfl ?_
                | refine T_iload (pc1 := 29) (pc := 27) k_M_walks_27 rfl rfl ?_
                | (refine T_cV (As := [_, _, _]) (d1 := 4) (pc1 := 32) (pc := 29) k_M_walks_29 rfl (by decide) (Nat.le_of_ble_eq_true rfl) rfl o_M_firstBit l_M_171 rfl (by first | exact ga G (by decide) rfl | assumption) rfl (c_M_firstBit G hJN ok hF ha ht (fun J1 hJ1 => ?_)) <;> try dsimp only [psh])
                | refine T_istore (pc1 := 34) (pc := 32) k_M_walks_32 rfl (Nat.le_of_ble_eq_true rfl) ?_
                | refine T_iload (pc1 := 36) (pc := 34) k_M_walks_34 rfl rfl ?_
                | (with_reducible refine T_if_geN (tgt := 43) (pc1 := 39) (pc := 36) k_M_walks_36 (by decide) (by decide) (by omega) ?_ <;> first | (exfalso; omega) | skip)
                | refine T_if_ge_t (tgt := 43) (pc := 36) k_M_walks_36 rfl (by decide) ?_
                | refine T_if_ge_f (tgt := 43) (pc1 := 39) (pc := 36) k_M_walks_36 rfl rfl (by decide) ?_
                | refine T_if_ge (tgt := 43) (pc1 := 39) (pc := 36) k_M_walks_36 rfl rfl (fun hc => ?_) (fun hc => ?_)
                | refine T_iconst (v := (nI 1)) (pc1 := 40) (pc := 39) k_M_walks_39 rfl (by decide) ?_
                | refine T_goto (tgt := 55) (pc := 40) k_M_walks_40 rfl ?_
                | refine T_iload (pc1 := 45) (pc := 43) k_M_walks_43 rfl rfl ?_
                | refine T_bipush (v := (nI 60)) (pc1 := 47) (pc := 45) k_M_walks_45 rfl (by decide) ?_
                | (with_reducible refine T_icmp_neN (tgt := 54) (pc1 := 50) (pc := 47) k_M_walks_47 (by decide) (by decide) (by omega) (by omega) (fun hc => ?_) (fun hc => ?_) <;> first | (exfalso; omega) | skip)
                | refine T_icmp_ne_t (tgt := 54) (pc := 47) k_M_walks_47 rfl (by decide) ?_
                | refine T_icmp_ne_f (tgt := 54) (pc1 := 50) (pc := 47) k_M_walks_47 rfl rfl (by decide) ?_
                | refine T_icmp_ne (tgt := 54) (pc1 := 50) (pc := 47) k_M_walks_47 rfl rfl (fun hc => ?_) (fun hc => ?_)
                | refine T_iconst (v := (nI 2)) (pc1 := 51) (pc := 50) k_M_walks_50 rfl (by decide) ?_
                | refine T_goto (tgt := 55) (pc := 51) k_M_walks_51 rfl ?_
                | refine T_iconst (v := (nI 0)) (pc1 := 55) (pc := 54) k_M_walks_54 rfl (by decide) ?_
                | refine T_istore (pc1 := 57) (pc := 55) k_M_walks_55 rfl (Nat.le_of_ble_eq_true rfl) ?_
                | refine T_iload (pc1 := 59) (pc := 57) k_M_walks_57 rfl rfl ?_
                | (with_reducible refine T_if_neN (tgt := 177) (pc1 := 62) (pc := 59) k_M_walks_59 (by decide) (by decide) (by omega) (fun hc => ?_) (fun hc => ?_) <;> first | (exfalso; omega) | skip)
                | refine T_if_ne_t (tgt := 177) (pc := 59) k_M_walks_59 rfl (by decide) ?_
                | refine T_if_ne_f (tgt := 177) (pc1 := 62) (pc := 59) k_M_walks_59 rfl rfl (by decide) ?_
                | refine T_if_ne (tgt := 177) (pc1 := 62) (pc := 59) k_M_walks_59 rfl rfl (fun hc => ?_) (fun hc => ?_)
                | refine T_aload_n (pc1 := 63) (pc := 62) k_M_walks_62 rfl rfl ?_
                | refine T_aload_nN (pc1 := 63) (pc := 62) k_M_walks_62 rfl rfl ?_
                | refine T_getR (pc1 := 66) (pc := 63) k_M_walks_63 rfl f_M_9 rfl (by first | exact ga G (by decide) rfl | assumption) (by first | exact gr G (by decide) rfl | assumption) ?_
                | refine T_bipush (v := (nI 96)) (pc1 := 68) (pc := 66) k_M_walks_66 rfl (by decide) ?_
                | refine T_iload (pc1 := 70) (pc := 68) k_M_walks_68 rfl rfl ?_
                | with_reducible refine T_iaddN (pc1 := 71) (pc := 70) k_M_walks_70 (by decide) ?_
                | refine T_iadd (pc1 := 71) (pc := 70) k_M_walks_70 rfl ?_
                | refine T_iload (pc1 := 73) (pc := 71) k_M_walks_71 rfl rfl ?_
                | refine T_iastN (pc1 := 74) (pc := 73) k_M_walks_73 rfl (by first | exact ga G (by decide) rfl | assumption) (by omega) (by omega) ?_
                | refine T_iincN (b := 1) (pc1 := 77) (pc := 74) k_M_walks_74 rfl rfl (by decide) ?_
                | refine T_iinc (v := (nI 1)) (pc1 := 77) (pc := 74) k_M_walks_74 rfl rfl (by decide) ?_
                | refine T_aload_n (pc1 := 78) (pc := 77) k_M_walks_77 rfl rfl ?_
                | refine T_aload_nN (pc1 := 78) (pc := 77) k_M_walks_77 rfl rfl ?_
                | refine T_iload (pc1 := 80) (pc := 78) k_M_walks_78 rfl rfl ?_
                | (refine T_cV (As := [_]) (d1 := 3) (pc1 := 83) (pc := 80) k_M_walks_80 rfl (by decide) (Nat.le_of_ble_eq_true rfl) rfl o_M_isBarred l_M_146 rfl (by first | exact ga G (by decide) rfl | assumption) rfl (c_M_isBarred G hJ2N ok1 hbn (fun hbr => ?_) (fun hbr => ?_)) <;> try dsimp only [psh])
                | (with_reducible refine T_if_eqN (tgt := 101) (pc1 := 86) (pc := 83) k_M_walks_83 (by decide) (by decide) (by omega) (fun hc => ?_) (fun hc => ?_) <;> first | (exfalso; omega) | skip)
                | refine T_if_eq_t (tgt := 101) (pc := 83) k_M_walks_83 rfl (by decide) ?_
                | refine T_if_eq_f (tgt := 101) (pc1 := 86) (pc := 83) k_M_walks_83 rfl rfl (by decide) ?_
                | refine T_if_eq (tgt := 101) (pc1 := 86) (pc := 83) k_M_walks_83 rfl rfl (fun hc => ?_) (fun hc => ?_)
                | refine T_iload (pc1 := 88) (pc := 86) k_M_walks_86 rfl rfl ?_
                | refine T_iconst (v := (nI 1)) (pc1 := 89) (pc := 88) k_M_walks_88 rfl (by decide) ?_
                | refine T_iload (pc1 := 91) (pc := 89) k_M_walks_89 rfl rfl ?_
                | refine T_ishl (pc1 := 92) (pc := 91) k_M_walks_91 rfl ?_
                | (refine T_ior (pc1 := 93) (pc := 92) k_M_walks_92 rfl ?_; rw [or_nI (by omega) (by omega)])
                | refine T_istore (pc1 := 95) (pc := 93) k_M_walks_93 rfl (Nat.le_of_ble_eq_true rfl) ?_
                | refine T_iincN (b := 1) (pc1 := 98) (pc := 95) k_M_walks_95 rfl rfl (by decide) ?_
                | refine T_iinc (v := (nI 1)) (pc1 := 98) (pc := 95) k_M_walks_95 rfl rfl (by decide) ?_
                | refine T_goto (tgt := 177) (pc := 98) k_M_walks_98 rfl ?_
                | refine T_aload_n (pc1 := 102) (pc := 101) k_M_walks_101 rfl rfl ?_
                | refine T_aload_nN (pc1 := 102) (pc := 101) k_M_walks_101 rfl rfl ?_
                | refine T_iload (pc1 := 104) (pc := 102) k_M_walks_102 rfl rfl ?_
                | (refine T_cV (As := [_]) (d1 := 4) (pc1 := 107) (pc := 104) k_M_walks_104 rfl (by decide) (Nat.le_of_ble_eq_true rfl) rfl o_M_takes l_M_143 rfl (by first | exact ga G (by decide) rfl | assumption) rfl (c_M_takesN G hJ2N ok1 hbn (fun J3 hJ3 => ?_)) <;> try dsimp only [psh])
                | refine T_istore (pc1 := 109) (pc := 107) k_M_walks_107 rfl (Nat.le_of_ble_eq_true rfl) ?_
                | refine T_iload (pc1 := 111) (pc := 109) k_M_walks_109 rfl rfl ?_
                | refine T_iload (pc1 := 113) (pc := 111) k_M_walks_111 rfl rfl ?_
                | with_reducible refine T_iaddN (pc1 := 114) (pc := 113) k_M_walks_113 (by decide) ?_
                | refine T_iadd (pc1 := 114) (pc := 113) k_M_walks_113 rfl ?_
                | refine T_istore (pc1 := 116) (pc := 114) k_M_walks_114 rfl (Nat.le_of_ble_eq_true rfl) ?_
                | refine T_aload_n (pc1 := 117) (pc := 116) k_M_walks_116 rfl rfl ?_
                | refine T_aload_nN (pc1 := 117) (pc := 116) k_M_walks_116 rfl rfl ?_
                | refine T_getR (pc1 := 120) (pc := 117) k_M_walks_117 rfl f_M_9 rfl (by first | exact ga G (by decide) rfl | assumption) (by first | exact gr G (by decide) rfl | assumption) ?_
                | refine T_bipush (v := (nI 12)) (pc1 := 122) (pc := 120) k_M_walks_120 rfl (by decide) ?_
                | refine T_bipush (v := (nI 6)) (pc1 := 124) (pc := 122) k_M_walks_122 rfl (by decide) ?_
                | refine T_iload (pc1 := 126) (pc := 124) k_M_walks_124 rfl rfl ?_
                | with_reducible refine T_imulN (pc1 := 127) (pc := 126) k_M_walks_126 (by decide) ?_
                | refine T_imul (pc1 := 127) (pc := 126) k_M_walks_126 rfl ?_
                | with_reducible refine T_iaddN (pc1 := 128) (pc := 127) k_M_walks_127 (by decide) ?_
                | refine T_iadd (pc1 := 128) (pc := 127) k_M_walks_127 rfl ?_
                | refine T_iconst (v := (nI 5)) (pc1 := 129) (pc := 128) k_M_walks_128 rfl (by decide) ?_
                | with_reducible refine T_iaddN (pc1 := 130) (pc := 129) k_M_walks_129 (by decide) ?_
                | refine T_iadd (pc1 := 130) (pc := 129) k_M_walks_129 rfl ?_
                | refine T_sipush (v := (nI 999)) (pc1 := 133) (pc := 130) k_M_walks_130 rfl (by decide) ?_
                | refine T_iload (pc1 := 135) (pc := 133) k_M_walks_133 rfl rfl ?_
                | refine T_mminV (pc1 := 138) (pc := 135) k_M_walks_135 rfl l_M_82 (by decide) (Nat.le_of_ble_eq_true rfl) (by with_reducible rfl) (by with_reducible rfl) (by omega) (by omega) ?_
                | refine T_mmin (pc1 := 138) (pc := 135) k_M_walks_135 rfl l_M_82 (by decide) (Nat.le_of_ble_eq_true rfl) ?_
                | refine T_iastN (pc1 := 139) (pc := 138) k_M_walks_138 rfl (by first | exact ga G (by decide) rfl | assumption) (by omega) (by omega) ?_
                | refine T_aload_n (pc1 := 140) (pc := 139) k_M_walks_139 rfl rfl ?_
                | refine T_aload_nN (pc1 := 140) (pc := 139) k_M_walks_139 rfl rfl ?_
                | refine T_getR (pc1 := 143) (pc := 140) k_M_walks_140 rfl f_M_9 rfl (by first | exact ga G (by decide) rfl | assumption) (by first | exact gr G (by decide) rfl | assumption) ?_
                | refine T_bipush (v := (nI 12)) (pc1 := 145) (pc := 143) k_M_walks_143 rfl (by decide) ?_
                | refine T_bipush (v := (nI 6)) (pc1 := 147) (pc := 145) k_M_walks_145 rfl (by decide) ?_
                | refine T_iload (pc1 := 149) (pc := 147) k_M_walks_147 rfl rfl ?_
                | with_reducible refine T_imulN (pc1 := 150) (pc := 149) k_M_walks_149 (by decide) ?_
                | refine T_imul (pc1 := 150) (pc := 149) k_M_walks_149 rfl ?_
                | with_reducible refine T_iaddN (pc1 := 151) (pc := 150) k_M_walks_150 (by decide) ?_
                | refine T_iadd (pc1 := 151) (pc := 150) k_M_walks_150 rfl ?_
                | refine T_iconst (v := (nI 4)) (pc1 := 152) (pc := 151) k_M_walks_151 rfl (by decide) ?_
                | with_reducible refine T_iaddN (pc1 := 153) (pc := 152) k_M_walks_152 (by decide) ?_
                | refine T_iadd (pc1 := 153) (pc := 152) k_M_walks_152 rfl ?_
                | refine T_sipush (v := (nI 999)) (pc1 := 156) (pc := 153) k_M_walks_153 rfl (by decide) ?_
                | refine T_aload_n (pc1 := 157) (pc := 156) k_M_walks_156 rfl rfl ?_
                | refine T_aload_nN (pc1 := 157) (pc := 156) k_M_walks_156 rfl rfl ?_
                | refine T_iload (pc1 := 159) (pc := 157) k_M_walks_157 rfl rfl ?_
                | refine T_iconst (v := (nI 4)) (pc1 := 160) (pc := 159) k_M_walks_159 rfl (by decide) ?_
                | (refine T_cV (As := [_, _]) (d1 := 1) (pc1 := 163) (pc := 160) k_M_walks_160 rfl (by decide) (Nat.le_of_ble_eq_true rfl) rfl o_M_bitIs l_M_124 rfl (by first | exact ga G (by decide) rfl | assumption) rfl (c_M_bitIs G (by omega) (by omega) (a4r _) ?_) <;> try dsimp only [psh])
                | refine T_iconst (v := (nI 1)) (pc1 := 164) (pc := 163) k_M_walks_163 rfl (by decide) ?_
                | with_reducible refine T_iaddN (pc1 := 165) (pc := 164) k_M_walks_164 (by decide) ?_
                | refine T_iadd (pc1 := 165) (pc := 164) k_M_walks_164 rfl ?_
                | refine T_mminV (pc1 := 168) (pc := 165) k_M_walks_165 rfl l_M_82 (by decide) (Nat.le_of_ble_eq_true rfl) (by with_reducible rfl) (by with_reducible rfl) (by omega) (by omega) ?_
                | refine T_mmin (pc1 := 168) (pc := 165) k_M_walks_165 rfl l_M_82 (by decide) (Nat.le_of_ble_eq_true rfl) ?_
                | refine T_iastN (pc1 := 169) (pc := 168) k_M_walks_168 rfl (by first | exact ga G (by decide) rfl | assumption) (by omega) (by omega) ?_
                | refine T_aload_n (pc1 := 170) (pc := 169) k_M_walks_169 rfl rfl ?_
                | refine T_aload_nN (pc1 := 170) (pc := 169) k_M_walks_169 rfl rfl ?_
                | refine T_iload (pc1 := 172) (pc := 170) k_M_walks_170 rfl rfl ?_
                | refine T_iload_n (pc1 := 173) (pc := 172) k_M_walks_172 rfl rfl ?_
                | (refine T_cV (As := [_, _]) (d1 := 2) (pc1 := 176) (pc := 173) k_M_walks_173 rfl (by decide) (Nat.le_of_ble_eq_true rfl) rfl o_M_otherEnd l_M_168 rfl (by first | exact ga G (by decide) rfl | assumption) rfl (c_M_otherEnd G hrow ok5 hbn ha (fun v w1 w2 w3 => ?_)) <;> try dsimp only [psh])
                | refine T_goto (tgt := 14) (pc := 177) k_M_walks_177 rfl ?_
                | refine T_aload_n (pc1 := 181) (pc := 180) k_M_walks_180 rfl rfl ?_
                | refine T_aload_nN (pc1 := 181) (pc := 180) k_M_walks_180 rfl rfl ?_
                | refine T_getR (pc1 := 184) (pc := 181) k_M_walks_181 rfl f_M_9 rfl (by first | exact ga G (by decide) rfl | assumption) (by first | exact gr G (by decide) rfl | assumption) ?_
                | refine T_bipush (v := (nI 7)) (pc1 := 186) (pc := 184) k_M_walks_184 rfl (by decide) ?_
                | refine T_iconst (v := (nI 1)) (pc1 := 187) (pc := 186) k_M_walks_186 rfl (by decide) ?_
                | refine T_iastN (pc1 := 188) (pc := 187) k_M_walks_187 rfl (by first | exact ga G (by decide) rfl | assumption) (by omega) (by omega) ?_
                | refine T_aload_n (pc1 := 189) (pc := 188) k_M_walks_188 rfl rfl ?_
                | refine T_aload_nN (pc1 := 189) (pc := 188) k_M_walks_188 rfl rfl ?_
                | refine T_getR (pc1 := 192) (pc := 189) k_M_walks_189 rfl f_M_9 rfl (by first | exact ga G (by decide) rfl | assumption) (by first | exact gr G (by decide) rfl | assumption) ?_
                | refine T_bipush (v := (nI 8)) (pc1 := 194) (pc := 192) k_M_walks_192 rfl (by decide) ?_
                | refine T_iload (pc1 := 196) (pc := 194) k_M_walks_194 rfl rfl ?_
                | refine T_iastN (pc1 := 197) (pc := 196) k_M_walks_196 rfl (by first | exact ga G (by decide) rfl | assumption) (by omega) (by omega) ?_
                | refine T_aload_n (pc1 := 198) (pc := 197) k_M_walks_197 rfl rfl ?_
                | refine T_aload_nN (pc1 := 198) (pc := 197) k_M_walks_197 rfl rfl ?_
                | refine T_getR (pc1 := 201) (pc := 198) k_M_walks_198 rfl f_M_9 rfl (by first | exact ga G (by decide) rfl | assumption) (by first | exact gr G (by decide) rfl | assumption) ?_
                | refine T_bipush (v := (nI 9)) (pc1 := 203) (pc := 201) k_M_walks_201 rfl (by decide) ?_
                | refine T_iload (pc1 := 205) (pc := 203) k_M_walks_203 rfl rfl ?_
                | refine T_iastN (pc1 := 206) (pc := 205) k_M_walks_205 rfl (by first | exact ga G (by decide) rfl | assumption) (by omega) (by omega) ?_
                | refine T_aload_n (pc1 := 207) (pc := 206) k_M_walks_206 rfl rfl ?_
                | refine T_aload_nN (pc1 := 207) (pc := 206) k_M_walks_206 rfl rfl ?_
                | refine T_getR (pc1 := 210) (pc := 207) k_M_walks_207 rfl f_M_9 rfl (by first | exact ga G (by decide) rfl | assumption) (by first | exact gr G (by decide) rfl | assumption) ?_
                | refine T_bipush (v := (nI 10)) (pc1 := 212) (pc := 210) k_M_walks_210 rfl (by decide) ?_
                | refine T_iload_n (pc1 := 213) (pc := 212) k_M_walks_212 rfl rfl ?_
                | refine T_iastN (pc1 := 214) (pc := 213) k_M_walks_213 rfl (by first | exact ga G (by decide) rfl | assumption) (by omega) (by omega) ?_
                | refine T_aload_n (pc1 := 215) (pc := 214) k_M_walks_214 rfl rfl ?_
                | refine T_aload_nN (pc1 := 215) (pc := 214) k_M_walks_214 rfl rfl ?_
                | refine T_getR (pc1 := 218) (pc := 215) k_M_walks_215 rfl f_M_9 rfl (by first | exact ga G (by decide) rfl | assumption) (by first | exact gr G (by decide) rfl | assumption) ?_
                | refine T_bipush (v := (nI 11)) (pc1 := 220) (pc := 218) k_M_walks_218 rfl (by decide) ?_
                | refine T_iload (pc1 := 222) (pc := 220) k_M_walks_220 rfl rfl ?_
                | refine T_iastN (pc1 := 223) (pc := 222) k_M_walks_222 rfl (by first | exact ga G (by decide) rfl | assumption) (by omega) (by omega) ?_
                | refine T_aload_n (pc1 := 224) (pc := 223) k_M_walks_223 rfl rfl ?_
                | refine T_aload_nN (pc1 := 224) (pc := 223) k_M_walks_223 rfl rfl ?_
                | refine T_getR (pc1 := 227) (pc := 224) k_M_walks_224 rfl f_M_9 rfl (by first | exact ga G (by decide) rfl | assumption) (by first | exact gr G (by decide) rfl | assumption) ?_
                | refine T_iconst (v := (nI 1)) (pc1 := 228) (pc := 227) k_M_walks_227 rfl (by decide) ?_
                | refine T_dup2 (pc1 := 229) (pc := 228) k_M_walks_228 rfl rfl rfl ?_
                | refine T_ialdN (pc1 := 230) (pc := 229) k_M_walks_229 rfl (by first | exact ga G (by decide) rfl | assumption) (by omega) (by omega) (by first | assumption | (simp (disch := omega) only [pI_eq, pI_row, pI_col, va_up_self, va_up_ne, ne_eq, not_false_eq_true, hJN] <;> rfl) | rfl) ?_
                | refine T_iald (pc1 := 230) (pc := 229) k_M_walks_229 rfl (by first | exact ga G (by decide) rfl | assumption) (by assumption) ?_
                | refine T_iconst (v := (nI 1)) (pc1 := 231) (pc := 230) k_M_walks_230 rfl (by decide) ?_
                | with_reducible refine T_iaddN (pc1 := 232) (pc := 231) k_M_walks_231 (by decide) ?_
                | refine T_iadd (pc1 := 232) (pc := 231) k_M_walks_231 rfl ?_
                | refine T_iastN (pc1 := 233) (pc := 232) k_M_walks_232 rfl (by first | exact ga G (by decide) rfl | assumption) (by omega) (by omega) ?_
                | refine T_aload_n (pc1 := 234) (pc := 233) k_M_walks_233 rfl rfl ?_
                | refine T_aload_nN (pc1 := 234) (pc := 233) k_M_walks_233 rfl rfl ?_
                | refine T_getR (pc1 := 237) (pc := 234) k_M_walks_234 rfl f_M_9 rfl (by first | exact ga G (by decide) rfl | assumption) (by first | exact gr G (by decide) rfl | assumption) ?_
                | refine T_iconst (v := (nI 2)) (pc1 := 238) (pc := 237) k_M_walks_237 rfl (by decide) ?_
                | refine T_dup2 (pc1 := 239) (pc := 238) k_M_walks_238 rfl rfl rfl ?_
                | refine T_ialdN (pc1 := 240) (pc := 239) k_M_walks_239 rfl (by first | exact ga G (by decide) rfl | assumption) (by omega) (by omega) (by first | assumption | (simp (disch := omega) only [pI_eq, pI_row, pI_col, va_up_self, va_up_ne, ne_eq, not_false_eq_true, hJN] <;> rfl) | rfl) ?_
                | refine T_iald (pc1 := 240) (pc := 239) k_M_walks_239 rfl (by first | exact ga G (by decide) rfl | assumption) (by assumption) ?_
                | refine T_iload (pc1 := 242) (pc := 240) k_M_walks_240 rfl rfl ?_
                | with_reducible refine T_iaddN (pc1 := 243) (pc := 242) k_M_walks_242 (by decide) ?_
                | refine T_iadd (pc1 := 243) (pc := 242) k_M_walks_242 rfl ?_
                | refine T_iastN (pc1 := 244) (pc := 243) k_M_walks_243 rfl (by first | exact ga G (by decide) rfl | assumption) (by omega) (by omega) ?_
                | refine T_iload (pc1 := 246) (pc := 244) k_M_walks_244 rfl rfl ?_
                | refine T_retI (pc := 246) k_M_walks_246 rfl (by first | rfl | decide | assumption) ?_)
              have hv : v = nI (oe N b at0) := by
                rw [ed5] at w1 w2
                unfold oe
                rcases hend with q | ⟨q1, q2⟩
                · rw [if_pos q]; exact w1 q
                · rw [if_neg q1]; exact w2 q1 q2
              rw [hv]
              repeat' (first
                | refine T_iload_n (pc1 := 1) (pc := 0) k_M_walks_0 rfl rfl ?_
                | refine T_istore_n (pc1 := 2) (pc := 1) k_M_walks_1 rfl (Nat.le_of_ble_eq_true rfl) ?_
                | refine T_iconst (v := (nI 0)) (pc1 := 3) (pc := 2) k_M_walks_2 rfl (by decide) ?_
                | refine T_istore (pc1 := 5) (pc := 3) k_M_walks_3 rfl (Nat.le_of_ble_eq_true rfl) ?_
                | refine T_iconst (v := (nI 0)) (pc1 := 6) (pc := 5) k_M_walks_5 rfl (by decide) ?_
                | refine T_istore (pc1 := 8) (pc := 6) k_M_walks_6 rfl (Nat.le_of_ble_eq_true rfl) ?_
                | refine T_iconst (v := (nI 0)) (pc1 := 9) (pc := 8) k_M_walks_8 rfl (by decide) ?_
                | refine T_istore (pc1 := 11) (pc := 9) k_M_walks_9 rfl (Nat.le_of_ble_eq_true rfl) ?_
                | refine T_iconst (v := (nI 0)) (pc1 := 12) (pc := 11) k_M_walks_11 rfl (by decide) ?_
                | refine T_istore (pc1 := 14) (pc := 12) k_M_walks_12 rfl (Nat.le_of_ble_eq_true rfl) ?_
                | refine T_iload_n (pc1 := 16) (pc := 15) k_M_walks_15 rfl rfl ?_
                | (with_reducible refine T_icmp_eqN (tgt := 180) (pc1 := 19) (pc := 16) k_M_walks_16 (by decide) (by decide) (by omega) (by omega) (fun hc => ?_) (fun hc => ?_) <;> first | (exfalso; omega) | skip)
                | refine T_icmp_eq_t (tgt := 180) (pc := 16) k_M_walks_16 rfl (by decide) ?_
                | refine T_icmp_eq_f (tgt := 180) (pc1 := 19) (pc := 16) k_M_walks_16 rfl rfl (by decide) ?_
                | refine T_icmp_eq (tgt := 180) (pc1 := 19) (pc := 16) k_M_walks_16 rfl rfl (fun hc => ?_) (fun hc => ?_)
                | refine T_iload (pc1 := 21) (pc := 19) k_M_walks_19 rfl rfl ?_
                | (with_reducible refine T_if_neN (tgt := 180) (pc1 := 24) (pc := 21) k_M_walks_21 (by decide) (by decide) (by omega) (fun hc => ?_) (fun hc => ?_) <;> first | (exfalso; omega) | skip)
                | refine T_if_ne_t (tgt := 180) (pc := 21) k_M_walks_21 rfl (by decide) ?_
                | refine T_if_ne_f (tgt := 180) (pc1 := 24) (pc := 21) k_M_walks_21 rfl rfl (by decide) ?_
                | refine T_if_ne (tgt := 180) (pc1 := 24) (pc := 21) k_M_walks_21 rfl rfl (fun hc => ?_) (fun hc => ?_)
                | refine T_aload_n (pc1 := 25) (pc := 24) k_M_walks_24 rfl rfl ?_
                | refine T_aload_nN (pc1 := 25) (pc := 24) k_M_walks_24 rfl rfl ?_
                | refine T_iload_n (pc1 := 26) (pc := 25) k_M_walks_25 rfl rfl ?_
                | refine T_iload_n (pc1 := 27) (pc := 26) k_M_walks_26 rfl rfl ?_
                | refine T_iload (pc1 := 29) (pc := 27) k_M_walks_27 rfl rfl ?_
                | (refine T_cV (As := [_, _, _]) (d1 := 4) (pc1 := 32) (pc := 29) k_M_walks_29 rfl (by decide) (Nat.le_of_ble_eq_true rfl) rfl o_M_firstBit l_M_171 rfl (by first | exact ga G (by decide) rfl | assumption) rfl (c_M_firstBit G hJN ok hF ha ht (fun J1 hJ1 => ?_)) <;> try dsimp only [psh])
                | refine T_istore (pc1 := 34) (pc := 32) k_M_walks_32 rfl (Nat.le_of_ble_eq_true rfl) ?_
                | refine T_iload (pc1 := 36) (pc := 34) k_M_walks_34 rfl rfl ?_
                | (with_reducible refine T_if_geN (tgt := 43) (pc1 := 39) (pc := 36) k_M_walks_36 (by decide) (by decide) (by omega) ?_ <;> first | (exfalso; omega) | skip)
                | refine T_if_ge_t (tgt := 43) (pc := 36) k_M_walks_36 rfl (by decide) ?_
                | refine T_if_ge_f (tgt := 43) (pc1 := 39) (pc := 36) k_M_walks_36 rfl rfl (by decide) ?_
                | refine T_if_ge (tgt := 43) (pc1 := 39) (pc := 36) k_M_walks_36 rfl rfl (fun hc => ?_) (fun hc => ?_)
                | refine T_iconst (v := (nI 1)) (pc1 := 40) (pc := 39) k_M_walks_39 rfl (by decide) ?_
                | refine T_goto (tgt := 55) (pc := 40) k_M_walks_40 rfl ?_
                | refine T_iload (pc1 := 45) (pc := 43) k_M_walks_43 rfl rfl ?_
                | refine T_bipush (v := (nI 60)) (pc1 := 47) (pc := 45) k_M_walks_45 rfl (by decide) ?_
                | (with_reducible refine T_icmp_neN (tgt := 54) (pc1 := 50) (pc := 47) k_M_walks_47 (by decide) (by decide) (by omega) (by omega) (fun hc => ?_) (fun hc => ?_) <;> first | (exfalso; omega) | skip)
                | refine T_icmp_ne_t (tgt := 54) (pc := 47) k_M_walks_47 rfl (by decide) ?_
                | refine T_icmp_ne_f (tgt := 54) (pc1 := 50) (pc := 47) k_M_walks_47 rfl rfl (by decide) ?_
                | refine T_icmp_ne (tgt := 54) (pc1 := 50) (pc := 47) k_M_walks_47 rfl rfl (fun hc => ?_) (fun hc => ?_)
                | refine T_iconst (v := (nI 2)) (pc1 := 51) (pc := 50) k_M_walks_50 rfl (by decide) ?_
                | refine T_goto (tgt := 55) (pc := 51) k_M_walks_51 rfl ?_
                | refine T_iconst (v := (nI 0)) (pc1 := 55) (pc := 54) k_M_walks_54 rfl (by decide) ?_
                | refine T_istore (pc1 := 57) (pc := 55) k_M_walks_55 rfl (Nat.le_of_ble_eq_true rfl) ?_
                | refine T_iload (pc1 := 59) (pc := 57) k_M_walks_57 rfl rfl ?_
                | (with_reducible refine T_if_neN (tgt := 177) (pc1 := 62) (pc := 59) k_M_walks_59 (by decide) (by decide) (by omega) (fun hc => ?_) (fun hc => ?_) <;> first | (exfalso; omega) | skip)
                | refine T_if_ne_t (tgt := 177) (pc := 59) k_M_walks_59 rfl (by decide) ?_
                | refine T_if_ne_f (tgt := 177) (pc1 := 62) (pc := 59) k_M_walks_59 rfl rfl (by decide) ?_
                | refine T_if_ne (tgt := 177) (pc1 := 62) (pc := 59) k_M_walks_59 rfl rfl (fun hc => ?_) (fun hc => ?_)
                | refine T_aload_n (pc1 := 63) (pc := 62) k_M_walks_62 rfl rfl ?_
                | refine T_aload_nN (pc1 := 63) (pc := 62) k_M_walks_62 rfl rfl ?_
                | refine T_getR (pc1 := 66) (pc := 63) k_M_walks_63 rfl f_M_9 rfl (by first | exact ga G (by decide) rfl | assumption) (by first | exact gr G (by decide) rfl | assumption) ?_
                | refine T_bipush (v := (nI 96)) (pc1 := 68) (pc := 66) k_M_walks_66 rfl (by decide) ?_
                | refine T_iload (pc1 := 70) (pc := 68) k_M_walks_68 rfl rfl ?_
                | with_reducible refine T_iaddN (pc1 := 71) (pc := 70) k_M_walks_70 (by decide) ?_
                | refine T_iadd (pc1 := 71) (pc := 70) k_M_walks_70 rfl ?_
                | refine T_iload (pc1 := 73) (pc := 71) k_M_walks_71 rfl rfl ?_
                | refine T_iastN (pc1 := 74) (pc := 73) k_M_walks_73 rfl (by first | exact ga G (by decide) rfl | assumption) (by omega) (by omega) ?_
                | refine T_iincN (b := 1) (pc1 := 77) (pc := 74) k_M_walks_74 rfl rfl (by decide) ?_
                | refine T_iinc (v := (nI 1)) (pc1 := 77) (pc := 74) k_M_walks_74 rfl rfl (by decide) ?_
                | refine T_aload_n (pc1 := 78) (pc := 77) k_M_walks_77 rfl rfl ?_
                | refine T_aload_nN (pc1 := 78) (pc := 77) k_M_walks_77 rfl rfl ?_
                | refine T_iload (pc1 := 80) (pc := 78) k_M_walks_78 rfl rfl ?_
                | (refine T_cV (As := [_]) (d1 := 3) (pc1 := 83) (pc := 80) k_M_walks_80 rfl (by decide) (Nat.le_of_ble_eq_true rfl) rfl o_M_isBarred l_M_146 rfl (by first | exact ga G (by decide) rfl | assumption) rfl (c_M_isBarred G hJ2N ok1 hbn (fun hbr => ?_) (fun hbr => ?_)) <;> try dsimp only [psh])
                | (with_reducible refine T_if_eqN (tgt := 101) (pc1 := 86) (pc := 83) k_M_walks_83 (by decide) (by decide) (by omega) (fun hc => ?_) (fun hc => ?_) <;> first | (exfalso; omega) | skip)
                | refine T_if_eq_t (tgt := 101) (pc := 83) k_M_walks_83 rfl (by decide) ?_
                | refine T_if_eq_f (tgt := 101) (pc1 := 86) (pc := 83) k_M_walks_83 rfl rfl (by decide) ?_
                | refine T_if_eq (tgt := 101) (pc1 := 86) (pc := 83) k_M_walks_83 rfl rfl (fun hc => ?_) (fun hc => ?_)
                | refine T_iload (pc1 := 88) (pc := 86) k_M_walks_86 rfl rfl ?_
                | refine T_iconst (v := (nI 1)) (pc1 := 89) (pc := 88) k_M_walks_88 rfl (by decide) ?_
                | refine T_iload (pc1 := 91) (pc := 89) k_M_walks_89 rfl rfl ?_
                | refine T_ishl (pc1 := 92) (pc := 91) k_M_walks_91 rfl ?_
                | (refine T_ior (pc1 := 93) (pc := 92) k_M_walks_92 rfl ?_; rw [or_nI (by omega) (by omega)])
                | refine T_istore (pc1 := 95) (pc := 93) k_M_walks_93 rfl (Nat.le_of_ble_eq_true rfl) ?_
                | refine T_iincN (b := 1) (pc1 := 98) (pc := 95) k_M_walks_95 rfl rfl (by decide) ?_
                | refine T_iinc (v := (nI 1)) (pc1 := 98) (pc := 95) k_M_walks_95 rfl rfl (by decide) ?_
                | refine T_goto (tgt := 177) (pc := 98) k_M_walks_98 rfl ?_
                | refine T_aload_n (pc1 := 102) (pc := 101) k_M_walks_101 rfl rfl ?_
                | refine T_aload_nN (pc1 := 102) (pc := 101) k_M_walks_101 rfl rfl ?_
                | refine T_iload (pc1 := 104) (pc := 102) k_M_walks_102 rfl rfl ?_
                | (refine T_cV (As := [_]) (d1 := 4) (pc1 := 107) (pc := 104) k_M_walks_104 rfl (by decide) (Nat.le_of_ble_eq_true rfl) rfl o_M_takes l_M_143 rfl (by first | exact ga G (by decide) rfl | assumption) rfl (c_M_takesN G hJ2N ok1 hbn (fun J3 hJ3 => ?_)) <;> try dsimp only [psh])
                | refine T_istore (pc1 := 109) (pc := 107) k_M_walks_107 rfl (Nat.le_of_ble_eq_true rfl) ?_
                | refine T_iload (pc1 := 111) (pc := 109) k_M_walks_109 rfl rfl ?_
                | refine T_iload (pc1 := 113) (pc := 111) k_M_walks_111 rfl rfl ?_
                | with_reducible refine T_iaddN (pc1 := 114) (pc := 113) k_M_walks_113 (by decide) ?_
                | refine T_iadd (pc1 := 114) (pc := 113) k_M_walks_113 rfl ?_
                | refine T_istore (pc1 := 116) (pc := 114) k_M_walks_114 rfl (Nat.le_of_ble_eq_true rfl) ?_
                | refine T_aload_n (pc1 := 117) (pc := 116) k_M_walks_116 rfl rfl ?_
                | refine T_aload_nN (pc1 := 117) (pc := 116) k_M_walks_116 rfl rfl ?_
                | refine T_getR (pc1 := 120) (pc := 117) k_M_walks_117 rfl f_M_9 rfl (by first | exact ga G (by decide) rfl | assumption) (by first | exact gr G (by decide) rfl | assumption) ?_
                | refine T_bipush (v := (nI 12)) (pc1 := 122) (pc := 120) k_M_walks_120 rfl (by decide) ?_
                | refine T_bipush (v := (nI 6)) (pc1 := 124) (pc := 122) k_M_walks_122 rfl (by decide) ?_
                | refine T_iload (pc1 := 126) (pc := 124) k_M_walks_124 rfl rfl ?_
                | with_reducible refine T_imulN (pc1 := 127) (pc := 126) k_M_walks_126 (by decide) ?_
                | refine T_imul (pc1 := 127) (pc := 126) k_M_walks_126 rfl ?_
                | with_reducible refine T_iaddN (pc1 := 128) (pc := 127) k_M_walks_127 (by decide) ?_
                | refine T_iadd (pc1 := 128) (pc := 127) k_M_walks_127 rfl ?_
                | refine T_iconst (v := (nI 5)) (pc1 := 129) (pc := 128) k_M_walks_128 rfl (by decide) ?_
                | with_reducible refine T_iaddN (pc1 := 130) (pc := 129) k_M_walks_129 (by decide) ?_
                | refine T_iadd (pc1 := 130) (pc := 129) k_M_walks_129 rfl ?_
                | refine T_sipush (v := (nI 999)) (pc1 := 133) (pc := 130) k_M_walks_130 rfl (by decide) ?_
                | refine T_iload (pc1 := 135) (pc := 133) k_M_walks_133 rfl rfl ?_
                | refine T_mminV (pc1 := 138) (pc := 135) k_M_walks_135 rfl l_M_82 (by decide) (Nat.le_of_ble_eq_true rfl) (by with_reducible rfl) (by with_reducible rfl) (by omega) (by omega) ?_
                | refine T_mmin (pc1 := 138) (pc := 135) k_M_walks_135 rfl l_M_82 (by decide) (Nat.le_of_ble_eq_true rfl) ?_
                | refine T_iastN (pc1 := 139) (pc := 138) k_M_walks_138 rfl (by first | exact ga G (by decide) rfl | assumption) (by omega) (by omega) ?_
                | refine T_aload_n (pc1 := 140) (pc := 139) k_M_walks_139 rfl rfl ?_
                | refine T_aload_nN (pc1 := 140) (pc := 139) k_M_walks_139 rfl rfl ?_
                | refine T_getR (pc1 := 143) (pc := 140) k_M_walks_140 rfl f_M_9 rfl (by first | exact ga G (by decide) rfl | assumption) (by first | exact gr G (by decide) rfl | assumption) ?_
                | refine T_bipush (v := (nI 12)) (pc1 := 145) (pc := 143) k_M_walks_143 rfl (by decide) ?_
                | refine T_bipush (v := (nI 6)) (pc1 := 147) (pc := 145) k_M_walks_145 rfl (by decide) ?_
                | refine T_iload (pc1 := 149) (pc := 147) k_M_walks_147 rfl rfl ?_
                | with_reducible refine T_imulN (pc1 := 150) (pc := 149) k_M_walks_149 (by decide) ?_
                | refine T_imul (pc1 := 150) (pc := 149) k_M_walks_149 rfl ?_
                | with_reducible refine T_iaddN (pc1 := 151) (pc := 150) k_M_walks_150 (by decide) ?_
                | refine T_iadd (pc1 := 151) (pc := 150) k_M_walks_150 rfl ?_
                | refine T_iconst (v := (nI 4)) (pc1 := 152) (pc := 151) k_M_walks_151 rfl (by decide) ?_
                | with_reducible refine T_iaddN (pc1 := 153) (pc := 152) k_M_walks_152 (by decide) ?_
                | refine T_iadd (pc1 := 153) (pc := 152) k_M_walks_152 rfl ?_
                | refine T_sipush (v := (nI 999)) (pc1 := 156) (pc := 153) k_M_walks_153 rfl (by decide) ?_
                | refine T_aload_n (pc1 := 157) (pc := 156) k_M_walks_156 rfl rfl ?_
                | refine T_aload_nN (pc1 := 157) (pc := 156) k_M_walks_156 rfl rfl ?_
                | refine T_iload (pc1 := 159) (pc := 157) k_M_walks_157 rfl rfl ?_
                | refine T_iconst (v := (nI 4)) (pc1 := 160) (pc := 159) k_M_walks_159 rfl (by decide) ?_
                | (refine T_cV (As := [_, _]) (d1 := 1) (pc1 := 163) (pc := 160) k_M_walks_160 rfl (by decide) (Nat.le_of_ble_eq_true rfl) rfl o_M_bitIs l_M_124 rfl (by first | exact ga G (by decide) rfl | assumption) rfl (c_M_bitIs G (by omega) (by omega) (a4r _) ?_) <;> try dsimp only [psh])
                | refine T_iconst (v := (nI 1)) (pc1 := 164) (pc := 163) k_M_walks_163 rfl (by decide) ?_
                | with_reducible refine T_iaddN (pc1 := 165) (pc := 164) k_M_walks_164 (by decide) ?_
                | refine T_iadd (pc1 := 165) (pc := 164) k_M_walks_164 rfl ?_
                | refine T_mminV (pc1 := 168) (pc := 165) k_M_walks_165 rfl l_M_82 (by decide) (Nat.le_of_ble_eq_true rfl) (by with_reducible rfl) (by with_reducible rfl) (by omega) (by omega) ?_
                | refine T_mmin (pc1 := 168) (pc := 165) k_M_walks_165 rfl l_M_82 (by decide) (Nat.le_of_ble_eq_true rfl) ?_
                | refine T_iastN (pc1 := 169) (pc := 168) k_M_walks_168 rfl (by first | exact ga G (by decide) rfl | assumption) (by omega) (by omega) ?_
                | refine T_aload_n (pc1 := 170) (pc := 169) k_M_walks_169 rfl rfl ?_
                | refine T_aload_nN (pc1 := 170) (pc := 169) k_M_walks_169 rfl rfl ?_
                | refine T_iload (pc1 := 172) (pc := 170) k_M_walks_170 rfl rfl ?_
                | refine T_iload_n (pc1 := 173) (pc := 172) k_M_walks_172 rfl rfl ?_
                | (refine T_cV (As := [_, _]) (d1 := 2) (pc1 := 176) (pc := 173) k_M_walks_173 rfl (by decide) (Nat.le_of_ble_eq_true rfl) rfl o_M_otherEnd l_M_168 rfl (by first | exact ga G (by decide) rfl | assumption) rfl (c_M_otherEnd G hrow ok5 hbn ha (fun v w1 w2 w3 => ?_)) <;> try dsimp only [psh])
                | refine T_istore_n (pc1 := 177) (pc := 176) k_M_walks_176 rfl (Nat.le_of_ble_eq_true rfl) ?_
                | refine T_goto (tgt := 14) (pc := 177) k_M_walks_177 rfl ?_
                | refine T_aload_n (pc1 := 181) (pc := 180) k_M_walks_180 rfl rfl ?_
                | refine T_aload_nN (pc1 := 181) (pc := 180) k_M_walks_180 rfl rfl ?_
                | refine T_getR (pc1 := 184) (pc := 181) k_M_walks_181 rfl f_M_9 rfl (by first | exact ga G (by decide) rfl | assumption) (by first | exact gr G (by decide) rfl | assumption) ?_
                | refine T_bipush (v := (nI 7)) (pc1 := 186) (pc := 184) k_M_walks_184 rfl (by decide) ?_
                | refine T_iconst (v := (nI 1)) (pc1 := 187) (pc := 186) k_M_walks_186 rfl (by decide) ?_
                | refine T_iastN (pc1 := 188) (pc := 187) k_M_walks_187 rfl (by first | exact ga G (by decide) rfl | assumption) (by omega) (by omega) ?_
                | refine T_aload_n (pc1 := 189) (pc := 188) k_M_walks_188 rfl rfl ?_
                | refine T_aload_nN (pc1 := 189) (pc := 188) k_M_walks_188 rfl rfl ?_
                | refine T_getR (pc1 := 192) (pc := 189) k_M_walks_189 rfl f_M_9 rfl (by first | exact ga G (by decide) rfl | assumption) (by first | exact gr G (by decide) rfl | assumption) ?_
                | refine T_bipush (v := (nI 8)) (pc1 := 194) (pc := 192) k_M_walks_192 rfl (by decide) ?_
                | refine T_iload (pc1 := 196) (pc := 194) k_M_walks_194 rfl rfl ?_
                | refine T_iastN (pc1 := 197) (pc := 196) k_M_walks_196 rfl (by first | exact ga G (by decide) rfl | assumption) (by omega) (by omega) ?_
                | refine T_aload_n (pc1 := 198) (pc := 197) k_M_walks_197 rfl rfl ?_
                | refine T_aload_nN (pc1 := 198) (pc := 197) k_M_walks_197 rfl rfl ?_
                | refine T_getR (pc1 := 201) (pc := 198) k_M_walks_198 rfl f_M_9 rfl (by first | exact ga G (by decide) rfl | assumption) (by first | exact gr G (by decide) rfl | assumption) ?_
                | refine T_bipush (v := (nI 9)) (pc1 := 203) (pc := 201) k_M_walks_201 rfl (by decide) ?_
                | refine T_iload (pc1 := 205) (pc := 203) k_M_walks_203 rfl rfl ?_
                | refine T_iastN (pc1 := 206) (pc := 205) k_M_walks_205 rfl (by first | exact ga G (by decide) rfl | assumption) (by omega) (by omega) ?_
                | refine T_aload_n (pc1 := 207) (pc := 206) k_M_walks_206 rfl rfl ?_
                | refine T_aload_nN (pc1 := 207) (pc := 206) k_M_walks_206 rfl rfl ?_
                | refine T_getR (pc1 := 210) (pc := 207) k_M_walks_207 rfl f_M_9 rfl (by first | exact ga G (by decide) rfl | assumption) (by first | exact gr G (by decide) rfl | assumption) ?_
                | refine T_bipush (v := (nI 10)) (pc1 := 212) (pc := 210) k_M_walks_210 rfl (by decide) ?_
                | refine T_iload_n (pc1 := 213) (pc := 212) k_M_walks_212 rfl rfl ?_
                | refine T_iastN (pc1 := 214) (pc := 213) k_M_walks_213 rfl (by first | exact ga G (by decide) rfl | assumption) (by omega) (by omega) ?_
                | refine T_aload_n (pc1 := 215) (pc := 214) k_M_walks_214 rfl rfl ?_
                | refine T_aload_nN (pc1 := 215) (pc := 214) k_M_walks_214 rfl rfl ?_
                | refine T_getR (pc1 := 218) (pc := 215) k_M_walks_215 rfl f_M_9 rfl (by first | exact ga G (by decide) rfl | assumption) (by first | exact gr G (by decide) rfl | assumption) ?_
                | refine T_bipush (v := (nI 11)) (pc1 := 220) (pc := 218) k_M_walks_218 rfl (by decide) ?_
                | refine T_iload (pc1 := 222) (pc := 220) k_M_walks_220 rfl rfl ?_
                | refine T_iastN (pc1 := 223) (pc := 222) k_M_walks_222 rfl (by first | exact ga G (by decide) rfl | assumption) (by omega) (by omega) ?_
                | refine T_aload_n (pc1 := 224) (pc := 223) k_M_walks_223 rfl rfl ?_
                | refine T_aload_nN (pc1 := 224) (pc := 223) k_M_walks_223 rfl rfl ?_
                | refine T_getR (pc1 := 227) (pc := 224) k_M_walks_224 rfl f_M_9 rfl (by first | exact ga G (by decide) rfl | assumption) (by first | exact gr G (by decide) rfl | assumption) ?_
                | refine T_iconst (v := (nI 1)) (pc1 := 228) (pc := 227) k_M_walks_227 rfl (by decide) ?_
                | refine T_dup2 (pc1 := 229) (pc := 228) k_M_walks_228 rfl rfl rfl ?_
                | refine T_ialdN (pc1 := 230) (pc := 229) k_M_walks_229 rfl (by first | exact ga G (by decide) rfl | assumption) (by omega) (by omega) (by first | assumption | (simp (disch := omega) only [pI_eq, pI_row, pI_col, va_up_self, va_up_ne, ne_eq, not_false_eq_true, hJN] <;> rfl) | rfl) ?_
                | refine T_iald (pc1 := 230) (pc := 229) k_M_walks_229 rfl (by first | exact ga G (by decide) rfl | assumption) (by assumption) ?_
                | refine T_iconst (v := (nI 1)) (pc1 := 231) (pc := 230) k_M_walks_230 rfl (by decide) ?_
                | with_reducible refine T_iaddN (pc1 := 232) (pc := 231) k_M_walks_231 (by decide) ?_
                | refine T_iadd (pc1 := 232) (pc := 231) k_M_walks_231 rfl ?_
                | refine T_iastN (pc1 := 233) (pc := 232) k_M_walks_232 rfl (by first | exact ga G (by decide) rfl | assumption) (by omega) (by omega) ?_
                | refine T_aload_n (pc1 := 234) (pc := 233) k_M_walks_233 rfl rfl ?_
                | refine T_aload_nN (pc1 := 234) (pc := 233) k_M_walks_233 rfl rfl ?_
                | refine T_getR (pc1 := 237) (pc := 234) k_M_walks_234 rfl f_M_9 rfl (by first | exact ga G (by decide) rfl | assumption) (by first | exact gr G (by decide) rfl | assumption) ?_
                | refine T_iconst (v := (nI 2)) (pc1 := 238) (pc := 237) k_M_walks_237 rfl (by decide) ?_
                | refine T_dup2 (pc1 := 239) (pc := 238) k_M_walks_238 rfl rfl rfl ?_
                | refine T_ialdN (pc1 := 240) (pc := 239) k_M_walks_239 rfl (by first | exact ga G (by decide) rfl | assumption) (by omega) (by omega) (by first | assumption | (simp (disch := omega) only [pI_eq, pI_row, pI_col, va_up_self, va_up_ne, ne_eq, not_false_eq_true, hJN] <;> rfl) | rfl) ?_
                | refine T_iald (pc1 := 240) (pc := 239) k_M_walks_239 rfl (by first | exact ga G (by decide) rfl | assumption) (by assumption) ?_
                | refine T_iload (pc1 := 242) (pc := 240) k_M_walks_240 rfl rfl ?_
                | with_reducible refine T_iaddN (pc1 := 243) (pc := 242) k_M_walks_242 (by decide) ?_
                | refine T_iadd (pc1 := 243) (pc := 242) k_M_walks_242 rfl ?_
                | refine T_iastN (pc1 := 244) (pc := 243) k_M_walks_243 rfl (by first | exact ga G (by decide) rfl | assumption) (by omega) (by omega) ?_
                | refine T_iload (pc1 := 246) (pc := 244) k_M_walks_244 rfl rfl ?_
                | refine T_retI (pc := 246) k_M_walks_246 rfl (by first | rfl | decide | assumption) ?_)
              exact ih _ _ _ _ _ _ _ _ (by omega) (by omega) ok5 (oe_lt ok hbn) hF (by omega) hx5 hrow hw
  repeat' (first
    | refine T_iload_n (pc1 := 1) (pc := 0) k_M_walks_0 rfl rfl ?_
    | refine T_istore_n (pc1 := 2) (pc := 1) k_M_walks_1 rfl (Nat.le_of_ble_eq_true rfl) ?_
    | refine T_iconst (v := (nI 0)) (pc1 := 3) (pc := 2) k_M_walks_2 rfl (by decide) ?_
    | refine T_istore (pc1 := 5) (pc := 3) k_M_walks_3 rfl (Nat.le_of_ble_eq_true rfl) ?_
    | refine T_iconst (v := (nI 0)) (pc1 := 6) (pc := 5) k_M_walks_5 rfl (by decide) ?_
    | refine T_istore (pc1 := 8) (pc := 6) k_M_walks_6 rfl (Nat.le_of_ble_eq_true rfl) ?_
    | refine T_iconst (v := (nI 0)) (pc1 := 9) (pc := 8) k_M_walks_8 rfl (by decide) ?_
    | refine T_istore (pc1 := 11) (pc := 9) k_M_walks_9 rfl (Nat.le_of_ble_eq_true rfl) ?_
    | refine T_iconst (v := (nI 0)) (pc1 := 12) (pc := 11) k_M_walks_11 rfl (by decide) ?_
    | refine T_istore (pc1 := 14) (pc := 12) k_M_walks_12 rfl (Nat.le_of_ble_eq_true rfl) ?_
    | refine T_iload_n (pc1 := 16) (pc := 15) k_M_walks_15 rfl rfl ?_
    | (with_reducible refine T_icmp_eqN (tgt := 180) (pc1 := 19) (pc := 16) k_M_walks_16 (by decide) (by decide) (by omega) (by omega) (fun hc => ?_) (fun hc => ?_) <;> first | (exfalso; omega) | skip)
    | refine T_icmp_eq_t (tgt := 180) (pc := 16) k_M_walks_16 rfl (by decide) ?_
    | refine T_icmp_eq_f (tgt := 180) (pc1 := 19) (pc := 16) k_M_walks_16 rfl rfl (by decide) ?_
    | refine T_icmp_eq (tgt := 180) (pc1 := 19) (pc := 16) k_M_walks_16 rfl rfl (fun hc => ?_) (fun hc => ?_)
    | refine T_iload (pc1 := 21) (pc := 19) k_M_walks_19 rfl rfl ?_
    | (with_reducible refine T_if_neN (tgt := 180) (pc1 := 24) (pc := 21) k_M_walks_21 (by decide) (by decide) (by omega) (fun hc => ?_) (fun hc => ?_) <;> first | (exfalso; omega) | skip)
    | refine T_if_ne_t (tgt := 180) (pc := 21) k_M_walks_21 rfl (by decide) ?_
    | refine T_if_ne_f (tgt := 180) (pc1 := 24) (pc := 21) k_M_walks_21 rfl rfl (by decide) ?_
    | refine T_if_ne (tgt := 180) (pc1 := 24) (pc := 21) k_M_walks_21 rfl rfl (fun hc => ?_) (fun hc => ?_)
    | refine T_aload_n (pc1 := 25) (pc := 24) k_M_walks_24 rfl rfl ?_
    | refine T_aload_nN (pc1 := 25) (pc := 24) k_M_walks_24 rfl rfl ?_
    | refine T_iload_n (pc1 := 26) (pc := 25) k_M_walks_25 rfl rfl ?_
    | refine T_iload_n (pc1 := 27) (pc := 26) k_M_walks_26 rfl rfl ?_
    | refine T_iload (pc1 := 29) (pc := 27) k_M_walks_27 rfl rfl ?_
    | (refine T_cV (As := [_, _, _]) (d1 := 4) (pc1 := 32) (pc := 29) k_M_walks_29 rfl (by decide) (Nat.le_of_ble_eq_true rfl) rfl o_M_firstBit l_M_171 rfl (by first | exact ga G (by decide) rfl | assumption) rfl (c_M_firstBit G hJN ok hF ha ht (fun J1 hJ1 => ?_)) <;> try dsimp only [psh])
    | refine T_istore (pc1 := 34) (pc := 32) k_M_walks_32 rfl (Nat.le_of_ble_eq_true rfl) ?_
    | refine T_iload (pc1 := 36) (pc := 34) k_M_walks_34 rfl rfl ?_
    | (with_reducible refine T_if_geN (tgt := 43) (pc1 := 39) (pc := 36) k_M_walks_36 (by decide) (by decide) (by omega) ?_ <;> first | (exfalso; omega) | skip)
    | refine T_if_ge_t (tgt := 43) (pc := 36) k_M_walks_36 rfl (by decide) ?_
    | refine T_if_ge_f (tgt := 43) (pc1 := 39) (pc := 36) k_M_walks_36 rfl rfl (by decide) ?_
    | refine T_if_ge (tgt := 43) (pc1 := 39) (pc := 36) k_M_walks_36 rfl rfl (fun hc => ?_) (fun hc => ?_)
    | refine T_iconst (v := (nI 1)) (pc1 := 40) (pc := 39) k_M_walks_39 rfl (by decide) ?_
    | refine T_goto (tgt := 55) (pc := 40) k_M_walks_40 rfl ?_
    | refine T_iload (pc1 := 45) (pc := 43) k_M_walks_43 rfl rfl ?_
    | refine T_bipush (v := (nI 60)) (pc1 := 47) (pc := 45) k_M_walks_45 rfl (by decide) ?_
    | (with_reducible refine T_icmp_neN (tgt := 54) (pc1 := 50) (pc := 47) k_M_walks_47 (by decide) (by decide) (by omega) (by omega) (fun hc => ?_) (fun hc => ?_) <;> first | (exfalso; omega) | skip)
    | refine T_icmp_ne_t (tgt := 54) (pc := 47) k_M_walks_47 rfl (by decide) ?_
    | refine T_icmp_ne_f (tgt := 54) (pc1 := 50) (pc := 47) k_M_walks_47 rfl rfl (by decide) ?_
    | refine T_icmp_ne (tgt := 54) (pc1 := 50) (pc := 47) k_M_walks_47 rfl rfl (fun hc => ?_) (fun hc => ?_)
    | refine T_iconst (v := (nI 2)) (pc1 := 51) (pc := 50) k_M_walks_50 rfl (by decide) ?_
    | refine T_goto (tgt := 55) (pc := 51) k_M_walks_51 rfl ?_
    | refine T_iconst (v := (nI 0)) (pc1 := 55) (pc := 54) k_M_walks_54 rfl (by decide) ?_
    | refine T_istore (pc1 := 57) (pc := 55) k_M_walks_55 rfl (Nat.le_of_ble_eq_true rfl) ?_
    | refine T_iload (pc1 := 59) (pc := 57) k_M_walks_57 rfl rfl ?_
    | (with_reducible refine T_if_neN (tgt := 177) (pc1 := 62) (pc := 59) k_M_walks_59 (by decide) (by decide) (by omega) (fun hc => ?_) (fun hc => ?_) <;> first | (exfalso; omega) | skip)
    | refine T_if_ne_t (tgt := 177) (pc := 59) k_M_walks_59 rfl (by decide) ?_
    | refine T_if_ne_f (tgt := 177) (pc1 := 62) (pc := 59) k_M_walks_59 rfl rfl (by decide) ?_
    | refine T_if_ne (tgt := 177) (pc1 := 62) (pc := 59) k_M_walks_59 rfl rfl (fun hc => ?_) (fun hc => ?_)
    | refine T_aload_n (pc1 := 63) (pc := 62) k_M_walks_62 rfl rfl ?_
    | refine T_aload_nN (pc1 := 63) (pc := 62) k_M_walks_62 rfl rfl ?_
    | refine T_getR (pc1 := 66) (pc := 63) k_M_walks_63 rfl f_M_9 rfl (by first | exact ga G (by decide) rfl | assumption) (by first | exact gr G (by decide) rfl | assumption) ?_
    | refine T_bipush (v := (nI 96)) (pc1 := 68) (pc := 66) k_M_walks_66 rfl (by decide) ?_
    | refine T_iload (pc1 := 70) (pc := 68) k_M_walks_68 rfl rfl ?_
    | with_reducible refine T_iaddN (pc1 := 71) (pc := 70) k_M_walks_70 (by decide) ?_
    | refine T_iadd (pc1 := 71) (pc := 70) k_M_walks_70 rfl ?_
    | refine T_iload (pc1 := 73) (pc := 71) k_M_walks_71 rfl rfl ?_
    | refine T_iastN (pc1 := 74) (pc := 73) k_M_walks_73 rfl (by first | exact ga G (by decide) rfl | assumption) (by omega) (by omega) ?_
    | refine T_iincN (b := 1) (pc1 := 77) (pc := 74) k_M_walks_74 rfl rfl (by decide) ?_
    | refine T_iinc (v := (nI 1)) (pc1 := 77) (pc := 74) k_M_walks_74 rfl rfl (by decide) ?_
    | refine T_aload_n (pc1 := 78) (pc := 77) k_M_walks_77 rfl rfl ?_
    | refine T_aload_nN (pc1 := 78) (pc := 77) k_M_walks_77 rfl rfl ?_
    | refine T_iload (pc1 := 80) (pc := 78) k_M_walks_78 rfl rfl ?_
    | (refine T_cV (As := [_]) (d1 := 3) (pc1 := 83) (pc := 80) k_M_walks_80 rfl (by decide) (Nat.le_of_ble_eq_true rfl) rfl o_M_isBarred l_M_146 rfl (by first | exact ga G (by decide) rfl | assumption) rfl (c_M_isBarred G hJ2N ok1 hbn (fun hbr => ?_) (fun hbr => ?_)) <;> try dsimp only [psh])
    | (with_reducible refine T_if_eqN (tgt := 101) (pc1 := 86) (pc := 83) k_M_walks_83 (by decide) (by decide) (by omega) (fun hc => ?_) (fun hc => ?_) <;> first | (exfalso; omega) | skip)
    | refine T_if_eq_t (tgt := 101) (pc := 83) k_M_walks_83 rfl (by decide) ?_
    | refine T_if_eq_f (tgt := 101) (pc1 := 86) (pc := 83) k_M_walks_83 rfl rfl (by decide) ?_
    | refine T_if_eq (tgt := 101) (pc1 := 86) (pc := 83) k_M_walks_83 rfl rfl (fun hc => ?_) (fun hc => ?_)
    | refine T_iload (pc1 := 88) (pc := 86) k_M_walks_86 rfl rfl ?_
    | refine T_iconst (v := (nI 1)) (pc1 := 89) (pc := 88) k_M_walks_88 rfl (by decide) ?_
    | refine T_iload (pc1 := 91) (pc := 89) k_M_walks_89 rfl rfl ?_
    | refine T_ishl (pc1 := 92) (pc := 91) k_M_walks_91 rfl ?_
    | (refine T_ior (pc1 := 93) (pc := 92) k_M_walks_92 rfl ?_; rw [or_nI (by omega) (by omega)])
    | refine T_istore (pc1 := 95) (pc := 93) k_M_walks_93 rfl (Nat.le_of_ble_eq_true rfl) ?_
    | refine T_iincN (b := 1) (pc1 := 98) (pc := 95) k_M_walks_95 rfl rfl (by decide) ?_
    | refine T_iinc (v := (nI 1)) (pc1 := 98) (pc := 95) k_M_walks_95 rfl rfl (by decide) ?_
    | refine T_goto (tgt := 177) (pc := 98) k_M_walks_98 rfl ?_
    | refine T_aload_n (pc1 := 102) (pc := 101) k_M_walks_101 rfl rfl ?_
    | refine T_aload_nN (pc1 := 102) (pc := 101) k_M_walks_101 rfl rfl ?_
    | refine T_iload (pc1 := 104) (pc := 102) k_M_walks_102 rfl rfl ?_
    | (refine T_cV (As := [_]) (d1 := 4) (pc1 := 107) (pc := 104) k_M_walks_104 rfl (by decide) (Nat.le_of_ble_eq_true rfl) rfl o_M_takes l_M_143 rfl (by first | exact ga G (by decide) rfl | assumption) rfl (c_M_takesN G hJ2N ok1 hbn (fun J3 hJ3 => ?_)) <;> try dsimp only [psh])
    | refine T_istore (pc1 := 109) (pc := 107) k_M_walks_107 rfl (Nat.le_of_ble_eq_true rfl) ?_
    | refine T_iload (pc1 := 111) (pc := 109) k_M_walks_109 rfl rfl ?_
    | refine T_iload (pc1 := 113) (pc := 111) k_M_walks_111 rfl rfl ?_
    | with_reducible refine T_iaddN (pc1 := 114) (pc := 113) k_M_walks_113 (by decide) ?_
    | refine T_iadd (pc1 := 114) (pc := 113) k_M_walks_113 rfl ?_
    | refine T_istore (pc1 := 116) (pc := 114) k_M_walks_114 rfl (Nat.le_of_ble_eq_true rfl) ?_
    | refine T_aload_n (pc1 := 117) (pc := 116) k_M_walks_116 rfl rfl ?_
    | refine T_aload_nN (pc1 := 117) (pc := 116) k_M_walks_116 rfl rfl ?_
    | refine T_getR (pc1 := 120) (pc := 117) k_M_walks_117 rfl f_M_9 rfl (by first | exact ga G (by decide) rfl | assumption) (by first | exact gr G (by decide) rfl | assumption) ?_
    | refine T_bipush (v := (nI 12)) (pc1 := 122) (pc := 120) k_M_walks_120 rfl (by decide) ?_
    | refine T_bipush (v := (nI 6)) (pc1 := 124) (pc := 122) k_M_walks_122 rfl (by decide) ?_
    | refine T_iload (pc1 := 126) (pc := 124) k_M_walks_124 rfl rfl ?_
    | with_reducible refine T_imulN (pc1 := 127) (pc := 126) k_M_walks_126 (by decide) ?_
    | refine T_imul (pc1 := 127) (pc := 126) k_M_walks_126 rfl ?_
    | with_reducible refine T_iaddN (pc1 := 128) (pc := 127) k_M_walks_127 (by decide) ?_
    | refine T_iadd (pc1 := 128) (pc := 127) k_M_walks_127 rfl ?_
    | refine T_iconst (v := (nI 5)) (pc1 := 129) (pc := 128) k_M_walks_128 rfl (by decide) ?_
    | with_reducible refine T_iaddN (pc1 := 130) (pc := 129) k_M_walks_129 (by decide) ?_
    | refine T_iadd (pc1 := 130) (pc := 129) k_M_walks_129 rfl ?_
    | refine T_sipush (v := (nI 999)) (pc1 := 133) (pc := 130) k_M_walks_130 rfl (by decide) ?_
    | refine T_iload (pc1 := 135) (pc := 133) k_M_walks_133 rfl rfl ?_
    | refine T_mminV (pc1 := 138) (pc := 135) k_M_walks_135 rfl l_M_82 (by decide) (Nat.le_of_ble_eq_true rfl) (by with_reducible rfl) (by with_reducible rfl) (by omega) (by omega) ?_
    | refine T_mmin (pc1 := 138) (pc := 135) k_M_walks_135 rfl l_M_82 (by decide) (Nat.le_of_ble_eq_true rfl) ?_
    | refine T_iastN (pc1 := 139) (pc := 138) k_M_walks_138 rfl (by first | exact ga G (by decide) rfl | assumption) (by omega) (by omega) ?_
    | refine T_aload_n (pc1 := 140) (pc := 139) k_M_walks_139 rfl rfl ?_
    | refine T_aload_nN (pc1 := 140) (pc := 139) k_M_walks_139 rfl rfl ?_
    | refine T_getR (pc1 := 143) (pc := 140) k_M_walks_140 rfl f_M_9 rfl (by first | exact ga G (by decide) rfl | assumption) (by first | exact gr G (by decide) rfl | assumption) ?_
    | refine T_bipush (v := (nI 12)) (pc1 := 145) (pc := 143) k_M_walks_143 rfl (by decide) ?_
    | refine T_bipush (v := (nI 6)) (pc1 := 147) (pc := 145) k_M_walks_145 rfl (by decide) ?_
    | refine T_iload (pc1 := 149) (pc := 147) k_M_walks_147 rfl rfl ?_
    | with_reducible refine T_imulN (pc1 := 150) (pc := 149) k_M_walks_149 (by decide) ?_
    | refine T_imul (pc1 := 150) (pc := 149) k_M_walks_149 rfl ?_
    | with_reducible refine T_iaddN (pc1 := 151) (pc := 150) k_M_walks_150 (by decide) ?_
    | refine T_iadd (pc1 := 151) (pc := 150) k_M_walks_150 rfl ?_
    | refine T_iconst (v := (nI 4)) (pc1 := 152) (pc := 151) k_M_walks_151 rfl (by decide) ?_
    | with_reducible refine T_iaddN (pc1 := 153) (pc := 152) k_M_walks_152 (by decide) ?_
    | refine T_iadd (pc1 := 153) (pc := 152) k_M_walks_152 rfl ?_
    | refine T_sipush (v := (nI 999)) (pc1 := 156) (pc := 153) k_M_walks_153 rfl (by decide) ?_
    | refine T_aload_n (pc1 := 157) (pc := 156) k_M_walks_156 rfl rfl ?_
    | refine T_aload_nN (pc1 := 157) (pc := 156) k_M_walks_156 rfl rfl ?_
    | refine T_iload (pc1 := 159) (pc := 157) k_M_walks_157 rfl rfl ?_
    | refine T_iconst (v := (nI 4)) (pc1 := 160) (pc := 159) k_M_walks_159 rfl (by decide) ?_
    | (refine T_cV (As := [_, _]) (d1 := 1) (pc1 := 163) (pc := 160) k_M_walks_160 rfl (by decide) (Nat.le_of_ble_eq_true rfl) rfl o_M_bitIs l_M_124 rfl (by first | exact ga G (by decide) rfl | assumption) rfl (c_M_bitIs G (by omega) (by omega) (a4r _) ?_) <;> try dsimp only [psh])
    | refine T_iconst (v := (nI 1)) (pc1 := 164) (pc := 163) k_M_walks_163 rfl (by decide) ?_
    | with_reducible refine T_iaddN (pc1 := 165) (pc := 164) k_M_walks_164 (by decide) ?_
    | refine T_iadd (pc1 := 165) (pc := 164) k_M_walks_164 rfl ?_
    | refine T_mminV (pc1 := 168) (pc := 165) k_M_walks_165 rfl l_M_82 (by decide) (Nat.le_of_ble_eq_true rfl) (by with_reducible rfl) (by with_reducible rfl) (by omega) (by omega) ?_
    | refine T_mmin (pc1 := 168) (pc := 165) k_M_walks_165 rfl l_M_82 (by decide) (Nat.le_of_ble_eq_true rfl) ?_
    | refine T_iastN (pc1 := 169) (pc := 168) k_M_walks_168 rfl (by first | exact ga G (by decide) rfl | assumption) (by omega) (by omega) ?_
    | refine T_aload_n (pc1 := 170) (pc := 169) k_M_walks_169 rfl rfl ?_
    | refine T_aload_nN (pc1 := 170) (pc := 169) k_M_walks_169 rfl rfl ?_
    | refine T_iload (pc1 := 172) (pc := 170) k_M_walks_170 rfl rfl ?_
    | refine T_iload_n (pc1 := 173) (pc := 172) k_M_walks_172 rfl rfl ?_
    | (refine T_cV (As := [_, _]) (d1 := 2) (pc1 := 176) (pc := 173) k_M_walks_173 rfl (by decide) (Nat.le_of_ble_eq_true rfl) rfl o_M_otherEnd l_M_168 rfl (by first | exact ga G (by decide) rfl | assumption) rfl (c_M_otherEnd G hrow ok5 hbn ha (fun v w1 w2 w3 => ?_)) <;> try dsimp only [psh])
    | refine T_istore_n (pc1 := 177) (pc := 176) k_M_walks_176 rfl (Nat.le_of_ble_eq_true rfl) ?_
    | refine T_goto (tgt := 14) (pc := 177) k_M_walks_177 rfl ?_
    | refine T_aload_n (pc1 := 181) (pc := 180) k_M_walks_180 rfl rfl ?_
    | refine T_aload_nN (pc1 := 181) (pc := 180) k_M_walks_180 rfl rfl ?_
    | refine T_getR (pc1 := 184) (pc := 181) k_M_walks_181 rfl f_M_9 rfl (by first | exact ga G (by decide) rfl | assumption) (by first | exact gr G (by decide) rfl | assumption) ?_
    | refine T_bipush (v := (nI 7)) (pc1 := 186) (pc := 184) k_M_walks_184 rfl (by decide) ?_
    | refine T_iconst (v := (nI 1)) (pc1 := 187) (pc := 186) k_M_walks_186 rfl (by decide) ?_
    | refine T_iastN (pc1 := 188) (pc := 187) k_M_walks_187 rfl (by first | exact ga G (by decide) rfl | assumption) (by omega) (by omega) ?_
    | refine T_aload_n (pc1 := 189) (pc := 188) k_M_walks_188 rfl rfl ?_
    | refine T_aload_nN (pc1 := 189) (pc := 188) k_M_walks_188 rfl rfl ?_
    | refine T_getR (pc1 := 192) (pc := 189) k_M_walks_189 rfl f_M_9 rfl (by first | exact ga G (by decide) rfl | assumption) (by first | exact gr G (by decide) rfl | assumption) ?_
    | refine T_bipush (v := (nI 8)) (pc1 := 194) (pc := 192) k_M_walks_192 rfl (by decide) ?_
    | refine T_iload (pc1 := 196) (pc := 194) k_M_walks_194 rfl rfl ?_
    | refine T_iastN (pc1 := 197) (pc := 196) k_M_walks_196 rfl (by first | exact ga G (by decide) rfl | assumption) (by omega) (by omega) ?_
    | refine T_aload_n (pc1 := 198) (pc := 197) k_M_walks_197 rfl rfl ?_
    | refine T_aload_nN (pc1 := 198) (pc := 197) k_M_walks_197 rfl rfl ?_
    | refine T_getR (pc1 := 201) (pc := 198) k_M_walks_198 rfl f_M_9 rfl (by first | exact ga G (by decide) rfl | assumption) (by first | exact gr G (by decide) rfl | assumption) ?_
    | refine T_bipush (v := (nI 9)) (pc1 := 203) (pc := 201) k_M_walks_201 rfl (by decide) ?_
    | refine T_iload (pc1 := 205) (pc := 203) k_M_walks_203 rfl rfl ?_
    | refine T_iastN (pc1 := 206) (pc := 205) k_M_walks_205 rfl (by first | exact ga G (by decide) rfl | assumption) (by omega) (by omega) ?_
    | refine T_aload_n (pc1 := 207) (pc := 206) k_M_walks_206 rfl rfl ?_
    | refine T_aload_nN (pc1 := 207) (pc := 206) k_M_walks_206 rfl rfl ?_
    | refine T_getR (pc1 := 210) (pc := 207) k_M_walks_207 rfl f_M_9 rfl (by first | exact ga G (by decide) rfl | assumption) (by first | exact gr G (by decide) rfl | assumption) ?_
    | refine T_bipush (v := (nI 10)) (pc1 := 212) (pc := 210) k_M_walks_210 rfl (by decide) ?_
    | refine T_iload_n (pc1 := 213) (pc := 212) k_M_walks_212 rfl rfl ?_
    | refine T_iastN (pc1 := 214) (pc := 213) k_M_walks_213 rfl (by first | exact ga G (by decide) rfl | assumption) (by omega) (by omega) ?_
    | refine T_aload_n (pc1 := 215) (pc := 214) k_M_walks_214 rfl rfl ?_
    | refine T_aload_nN (pc1 := 215) (pc := 214) k_M_walks_214 rfl rfl ?_
    | refine T_getR (pc1 := 218) (pc := 215) k_M_walks_215 rfl f_M_9 rfl (by first | exact ga G (by decide) rfl | assumption) (by first | exact gr G (by decide) rfl | assumption) ?_
    | refine T_bipush (v := (nI 11)) (pc1 := 220) (pc := 218) k_M_walks_218 rfl (by decide) ?_
    | refine T_iload (pc1 := 222) (pc := 220) k_M_walks_220 rfl rfl ?_
    | refine T_iastN (pc1 := 223) (pc := 222) k_M_walks_222 rfl (by first | exact ga G (by decide) rfl | assumption) (by omega) (by omega) ?_
    | refine T_aload_n (pc1 := 224) (pc := 223) k_M_walks_223 rfl rfl ?_
    | refine T_aload_nN (pc1 := 224) (pc := 223) k_M_walks_223 rfl rfl ?_
    | refine T_getR (pc1 := 227) (pc := 224) k_M_walks_224 rfl f_M_9 rfl (by first | exact ga G (by decide) rfl | assumption) (by first | exact gr G (by decide) rfl | assumption) ?_
    | refine T_iconst (v := (nI 1)) (pc1 := 228) (pc := 227) k_M_walks_227 rfl (by decide) ?_
    | refine T_dup2 (pc1 := 229) (pc := 228) k_M_walks_228 rfl rfl rfl ?_
    | refine T_ialdN (pc1 := 230) (pc := 229) k_M_walks_229 rfl (by first | exact ga G (by decide) rfl | assumption) (by omega) (by omega) (by first | assumption | (simp (disch := omega) only [pI_eq, pI_row, pI_col, va_up_self, va_up_ne, ne_eq, not_false_eq_true, hJN] <;> rfl) | rfl) ?_
    | refine T_iald (pc1 := 230) (pc := 229) k_M_walks_229 rfl (by first | exact ga G (by decide) rfl | assumption) (by assumption) ?_
    | refine T_iconst (v := (nI 1)) (pc1 := 231) (pc := 230) k_M_walks_230 rfl (by decide) ?_
    | with_reducible refine T_iaddN (pc1 := 232) (pc := 231) k_M_walks_231 (by decide) ?_
    | refine T_iadd (pc1 := 232) (pc := 231) k_M_walks_231 rfl ?_
    | refine T_iastN (pc1 := 233) (pc := 232) k_M_walks_232 rfl (by first | exact ga G (by decide) rfl | assumption) (by omega) (by omega) ?_
    | refine T_aload_n (pc1 := 234) (pc := 233) k_M_walks_233 rfl rfl ?_
    | refine T_aload_nN (pc1 := 234) (pc := 233) k_M_walks_233 rfl rfl ?_
    | refine T_getR (pc1 := 237) (pc := 234) k_M_walks_234 rfl f_M_9 rfl (by first | exact ga G (by decide) rfl | assumption) (by first | exact gr G (by decide) rfl | assumption) ?_
    | refine T_iconst (v := (nI 2)) (pc1 := 238) (pc := 237) k_M_walks_237 rfl (by decide) ?_
    | refine T_dup2 (pc1 := 239) (pc := 238) k_M_walks_238 rfl rfl rfl ?_
    | refine T_ialdN (pc1 := 240) (pc := 239) k_M_walks_239 rfl (by first | exact ga G (by decide) rfl | assumption) (by omega) (by omega) (by first | assumption | (simp (disch := omega) only [pI_eq, pI_row, pI_col, va_up_self, va_up_ne, ne_eq, not_false_eq_true, hJN] <;> rfl) | rfl) ?_
    | refine T_iald (pc1 := 240) (pc := 239) k_M_walks_239 rfl (by first | exact ga G (by decide) rfl | assumption) (by assumption) ?_
    | refine T_iload (pc1 := 242) (pc := 240) k_M_walks_240 rfl rfl ?_
    | with_reducible refine T_iaddN (pc1 := 243) (pc := 242) k_M_walks_242 (by decide) ?_
    | refine T_iadd (pc1 := 243) (pc := 242) k_M_walks_242 rfl ?_
    | refine T_iastN (pc1 := 244) (pc := 243) k_M_walks_243 rfl (by first | exact ga G (by decide) rfl | assumption) (by omega) (by omega) ?_
    | refine T_iload (pc1 := 246) (pc := 244) k_M_walks_244 rfl rfl ?_
    | refine T_retI (pc := 246) k_M_walks_246 rfl (by first | rfl | decide | assumption) ?_)
  exact loop 61 fr 0 0 0 N I _ _ (by omega) (by omega) ok hf (by decide) (by decide) eqx_rf hN hW
end M9
