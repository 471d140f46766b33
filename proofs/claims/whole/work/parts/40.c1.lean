/-! The class: small tests, bits. -/
section C1
variable {g : Geo} {I : IM} {K : Option Value → Geo → IM → Prop}
theorem T_abldV {d : Nat} {μ : Mth} {pc pc1 : Nat} {L : Lcl} {S : List Value} {g : Geo} {I : IM} {P : Option Value → Geo → IM → Prop} {x v : Int32} (hf : Fe μ pc .iaload 1) (hq : pc + 1 = pc1) (hin : vp_in x 6) (hv : aboveL.getD x.toNatClampNeg 0 = v) (kR : Rl d μ pc1 L (.int v :: S) g I P) : Rl d μ pc L (.int x :: .ref 1000200 :: S) g I P := T_abld hf hq hin (by rw [hv]; exact kR)
theorem c_S_isWithin {v lo hi : Int32} (kt : lo.toInt ≤ v.toInt ∧ v.toInt ≤ hi.toInt → K (some (.int (nI 1))) g I) (kf : ¬ (lo.toInt ≤ v.toInt ∧ v.toInt ≤ hi.toInt) → K (some (.int (nI 0))) g I) : Cl 1 M_S_isWithin [.int v, .int lo, .int hi] g I K := by
  show Rl 1 M_S_isWithin 0 [some (.int v), some (.int lo), some (.int hi)] [] g I K
  repeat' (first
    | (refine T_iload_n (pc1 := 1) (pc := 0) k_S_isWithin_0 rfl rfl ?_ <;> try (refine T_iload_n (pc1 := 2) (pc := 1) k_S_isWithin_1 rfl rfl ?_ <;> try ((first | (with_reducible refine T_icmp_ltN (tgt := 14) (pc1 := 5) (pc := 2) k_S_isWithin_2 (by decide) (by decide) (by omega) (by omega) (fun hc => ?_) (fun hc => ?_) <;> first | (exfalso; omega) | skip) | refine T_icmp_lt_t (tgt := 14) (pc := 2) k_S_isWithin_2 rfl (by decide) ?_ | refine T_icmp_lt_f (tgt := 14) (pc1 := 5) (pc := 2) k_S_isWithin_2 rfl rfl (by decide) ?_ | refine T_icmp_lt (tgt := 14) (pc1 := 5) (pc := 2) k_S_isWithin_2 rfl rfl (fun hc => ?_) (fun hc => ?_)))))
    | (refine T_iload_n (pc1 := 6) (pc := 5) k_S_isWithin_5 rfl rfl ?_ <;> try (refine T_iload_n (pc1 := 7) (pc := 6) k_S_isWithin_6 rfl rfl ?_ <;> try ((first | (with_reducible refine T_icmp_gtN (tgt := 14) (pc1 := 10) (pc := 7) k_S_isWithin_7 (by decide) (by decide) (by omega) (by omega) (fun hc => ?_) (fun hc => ?_) <;> first | (exfalso; omega) | skip) | refine T_icmp_gt_t (tgt := 14) (pc := 7) k_S_isWithin_7 rfl (by decide) ?_ | refine T_icmp_gt_f (tgt := 14) (pc1 := 10) (pc := 7) k_S_isWithin_7 rfl rfl (by decide) ?_ | refine T_icmp_gt (tgt := 14) (pc1 := 10) (pc := 7) k_S_isWithin_7 rfl rfl (fun hc => ?_) (fun hc => ?_)))))
    | (refine T_iconst (v := (nI 1)) (pc1 := 11) (pc := 10) k_S_isWithin_10 rfl (by decide) ?_ <;> try (refine T_goto (tgt := 15) (pc := 11) k_S_isWithin_11 rfl ?_))
    | (refine T_iconst (v := (nI 0)) (pc1 := 15) (pc := 14) k_S_isWithin_14 rfl (by decide) ?_)
    | (refine T_retI (pc := 15) k_S_isWithin_15 rfl (by first | rfl | decide | assumption) ?_)
    | refine T_iload_n (pc1 := 2) (pc := 1) k_S_isWithin_1 rfl rfl ?_
    | (with_reducible refine T_icmp_ltN (tgt := 14) (pc1 := 5) (pc := 2) k_S_isWithin_2 (by decide) (by decide) (by omega) (by omega) (fun hc => ?_) (fun hc => ?_) <;> first | (exfalso; omega) | skip)
    | refine T_icmp_lt_t (tgt := 14) (pc := 2) k_S_isWithin_2 rfl (by decide) ?_
    | refine T_icmp_lt_f (tgt := 14) (pc1 := 5) (pc := 2) k_S_isWithin_2 rfl rfl (by decide) ?_
    | refine T_icmp_lt (tgt := 14) (pc1 := 5) (pc := 2) k_S_isWithin_2 rfl rfl (fun hc => ?_) (fun hc => ?_)
    | refine T_iload_n (pc1 := 7) (pc := 6) k_S_isWithin_6 rfl rfl ?_
    | (with_reducible refine T_icmp_gtN (tgt := 14) (pc1 := 10) (pc := 7) k_S_isWithin_7 (by decide) (by decide) (by omega) (by omega) (fun hc => ?_) (fun hc => ?_) <;> first | (exfalso; omega) | skip)
    | refine T_icmp_gt_t (tgt := 14) (pc := 7) k_S_isWithin_7 rfl (by decide) ?_
    | refine T_icmp_gt_f (tgt := 14) (pc1 := 10) (pc := 7) k_S_isWithin_7 rfl rfl (by decide) ?_
    | refine T_icmp_gt (tgt := 14) (pc1 := 10) (pc := 7) k_S_isWithin_7 rfl rfl (fun hc => ?_) (fun hc => ?_)
    | refine T_goto (tgt := 15) (pc := 11) k_S_isWithin_11 rfl ?_)
  all_goals rw [lt_toInt] at *
  · exact kf (by omega)
  · exact kf (by omega)
  · exact kt (by omega)
theorem c_S_heldWithin {v lo hi : Int32} (kk : K (some (.int (hld lo hi v))) g I) : Cl 1 M_S_heldWithin [.int v, .int lo, .int hi] g I K := by
  show Rl 1 M_S_heldWithin 0 [some (.int v), some (.int lo), some (.int hi)] [] g I K
  unfold hld at kk
  rw [jmin_comm] at kk
  repeat' (first
    | (refine T_iload_n (pc1 := 1) (pc := 0) k_S_heldWithin_0 rfl rfl ?_ <;> try (refine T_iload_n (pc1 := 2) (pc := 1) k_S_heldWithin_1 rfl rfl ?_ <;> try (refine T_iload_n (pc1 := 3) (pc := 2) k_S_heldWithin_2 rfl rfl ?_ <;> try (refine T_mmin (pc1 := 6) (pc := 3) k_S_heldWithin_3 rfl l_S_152 (by decide) (Nat.le_of_ble_eq_true rfl) ?_ <;> try (refine T_mmax (pc1 := 9) (pc := 6) k_S_heldWithin_6 rfl l_S_347 (by decide) (Nat.le_of_ble_eq_true rfl) ?_ <;> try (refine T_retI (pc := 9) k_S_heldWithin_9 rfl (by first | rfl | decide | assumption) ?_))))))
    | refine T_iload_n (pc1 := 2) (pc := 1) k_S_heldWithin_1 rfl rfl ?_
    | refine T_iload_n (pc1 := 3) (pc := 2) k_S_heldWithin_2 rfl rfl ?_
    | refine T_mmin (pc1 := 6) (pc := 3) k_S_heldWithin_3 rfl l_S_152 (by decide) (Nat.le_of_ble_eq_true rfl) ?_
    | refine T_mmax (pc1 := 9) (pc := 6) k_S_heldWithin_6 rfl l_S_347 (by decide) (Nat.le_of_ble_eq_true rfl) ?_
    | refine T_retI (pc := 9) k_S_heldWithin_9 rfl (by first | rfl | decide | assumption) ?_)
  exact kk
theorem c_S_isSpot {v : Int32} (kt : rg 8 v → K (some (.int (nI 1))) g I) (kf : ¬ rg 8 v → K (some (.int (nI 0))) g I) : Cl 2 M_S_isSpot [.int v] g I K := by
  show Rl 2 M_S_isSpot 0 [some (.int v)] [] g I K
  have e0 : (nI 0).toInt = 0 := rfl
  have e7 : (nI 7).toInt = 7 := rfl
  repeat' (first
    | (refine T_iload_n (pc1 := 1) (pc := 0) k_S_isSpot_0 rfl rfl ?_ <;> try (refine T_iconst (v := (nI 0)) (pc1 := 2) (pc := 1) k_S_isSpot_1 rfl (by decide) ?_ <;> try (refine T_bipush (v := (nI 7)) (pc1 := 4) (pc := 2) k_S_isSpot_2 rfl (by decide) ?_ <;> try ((refine T_cS (As := [_, _, _]) (d1 := 1) (pc1 := 7) (pc := 4) k_S_isSpot_4 rfl (by decide) (Nat.le_of_ble_eq_true rfl) rfl o_S_isWithin l_S_77 rfl (c_S_isWithin (fun hw => ?_) (fun hw => ?_)) <;> try dsimp only [psh]) <;> try (refine T_retI (pc := 7) k_S_isSpot_7 rfl (by first | rfl | decide | assumption) ?_)))))
    | refine T_iconst (v := (nI 0)) (pc1 := 2) (pc := 1) k_S_isSpot_1 rfl (by decide) ?_
    | refine T_bipush (v := (nI 7)) (pc1 := 4) (pc := 2) k_S_isSpot_2 rfl (by decide) ?_
    | (refine T_cS (As := [_, _, _]) (d1 := 1) (pc1 := 7) (pc := 4) k_S_isSpot_4 rfl (by decide) (Nat.le_of_ble_eq_true rfl) rfl o_S_isWithin l_S_77 rfl (c_S_isWithin (fun hw => ?_) (fun hw => ?_)) <;> try dsimp only [psh])
    | refine T_retI (pc := 7) k_S_isSpot_7 rfl (by first | rfl | decide | assumption) ?_)
  · exact kt (by constructor <;> omega)
  · exact kf (fun h => hw (by constructor <;> omega))
theorem c_S_isKind {v : Int32} (kt : rg 6 v → K (some (.int (nI 1))) g I) (kf : ¬ rg 6 v → K (some (.int (nI 0))) g I) : Cl 2 M_S_isKind [.int v] g I K := by
  show Rl 2 M_S_isKind 0 [some (.int v)] [] g I K
  have e0 : (nI 0).toInt = 0 := rfl
  have e7 : (nI 5).toInt = 5 := rfl
  repeat' (first
    | (refine T_iload_n (pc1 := 1) (pc := 0) k_S_isKind_0 rfl rfl ?_ <;> try (refine T_iconst (v := (nI 0)) (pc1 := 2) (pc := 1) k_S_isKind_1 rfl (by decide) ?_ <;> try (refine T_iconst (v := (nI 5)) (pc1 := 3) (pc := 2) k_S_isKind_2 rfl (by decide) ?_ <;> try ((refine T_cS (As := [_, _, _]) (d1 := 1) (pc1 := 6) (pc := 3) k_S_isKind_3 rfl (by decide) (Nat.le_of_ble_eq_true rfl) rfl o_S_isWithin l_S_77 rfl (c_S_isWithin (fun hw => ?_) (fun hw => ?_)) <;> try dsimp only [psh]) <;> try (refine T_retI (pc := 6) k_S_isKind_6 rfl (by first | rfl | decide | assumption) ?_)))))
    | refine T_iconst (v := (nI 0)) (pc1 := 2) (pc := 1) k_S_isKind_1 rfl (by decide) ?_
    | refine T_iconst (v := (nI 5)) (pc1 := 3) (pc := 2) k_S_isKind_2 rfl (by decide) ?_
    | (refine T_cS (As := [_, _, _]) (d1 := 1) (pc1 := 6) (pc := 3) k_S_isKind_3 rfl (by decide) (Nat.le_of_ble_eq_true rfl) rfl o_S_isWithin l_S_77 rfl (c_S_isWithin (fun hw => ?_) (fun hw => ?_)) <;> try dsimp only [psh])
    | refine T_retI (pc := 6) k_S_isKind_6 rfl (by first | rfl | decide | assumption) ?_)
  · exact kt (by constructor <;> omega)
  · exact kf (fun h => hw (by constructor <;> omega))
theorem c_S_isSheet {v : Int32} (kt : rg 4 v → K (some (.int (nI 1))) g I) (kf : ¬ rg 4 v → K (some (.int (nI 0))) g I) : Cl 2 M_S_isSheet [.int v] g I K := by
  show Rl 2 M_S_isSheet 0 [some (.int v)] [] g I K
  have e0 : (nI 0).toInt = 0 := rfl
  have e7 : (nI 3).toInt = 3 := rfl
  repeat' (first
    | (refine T_iload_n (pc1 := 1) (pc := 0) k_S_isSheet_0 rfl rfl ?_ <;> try (refine T_iconst (v := (nI 0)) (pc1 := 2) (pc := 1) k_S_isSheet_1 rfl (by decide) ?_ <;> try (refine T_iconst (v := (nI 3)) (pc1 := 3) (pc := 2) k_S_isSheet_2 rfl (by decide) ?_ <;> try ((refine T_cS (As := [_, _, _]) (d1 := 1) (pc1 := 6) (pc := 3) k_S_isSheet_3 rfl (by decide) (Nat.le_of_ble_eq_true rfl) rfl o_S_isWithin l_S_77 rfl (c_S_isWithin (fun hw => ?_) (fun hw => ?_)) <;> try dsimp only [psh]) <;> try (refine T_retI (pc := 6) k_S_isSheet_6 rfl (by first | rfl | decide | assumption) ?_)))))
    | refine T_iconst (v := (nI 0)) (pc1 := 2) (pc := 1) k_S_isSheet_1 rfl (by decide) ?_
    | refine T_iconst (v := (nI 3)) (pc1 := 3) (pc := 2) k_S_isSheet_2 rfl (by decide) ?_
    | (refine T_cS (As := [_, _, _]) (d1 := 1) (pc1 := 6) (pc := 3) k_S_isSheet_3 rfl (by decide) (Nat.le_of_ble_eq_true rfl) rfl o_S_isWithin l_S_77 rfl (c_S_isWithin (fun hw => ?_) (fun hw => ?_)) <;> try dsimp only [psh])
    | refine T_retI (pc := 6) k_S_isSheet_6 rfl (by first | rfl | decide | assumption) ?_)
  · exact kt (by constructor <;> omega)
  · exact kf (fun h => hw (by constructor <;> omega))
theorem c_S_isSlot {v : Int32} (kt : rg 5 v → K (some (.int (nI 1))) g I) (kf : ¬ rg 5 v → K (some (.int (nI 0))) g I) : Cl 2 M_S_isSlot [.int v] g I K := by
  show Rl 2 M_S_isSlot 0 [some (.int v)] [] g I K
  have e0 : (nI 0).toInt = 0 := rfl
  have e7 : (nI 4).toInt = 4 := rfl
  repeat' (first
    | (refine T_iload_n (pc1 := 1) (pc := 0) k_S_isSlot_0 rfl rfl ?_ <;> try (refine T_iconst (v := (nI 0)) (pc1 := 2) (pc := 1) k_S_isSlot_1 rfl (by decide) ?_ <;> try (refine T_iconst (v := (nI 4)) (pc1 := 3) (pc := 2) k_S_isSlot_2 rfl (by decide) ?_ <;> try ((refine T_cS (As := [_, _, _]) (d1 := 1) (pc1 := 6) (pc := 3) k_S_isSlot_3 rfl (by decide) (Nat.le_of_ble_eq_true rfl) rfl o_S_isWithin l_S_77 rfl (c_S_isWithin (fun hw => ?_) (fun hw => ?_)) <;> try dsimp only [psh]) <;> try (refine T_retI (pc := 6) k_S_isSlot_6 rfl (by first | rfl | decide | assumption) ?_)))))
    | refine T_iconst (v := (nI 0)) (pc1 := 2) (pc := 1) k_S_isSlot_1 rfl (by decide) ?_
    | refine T_iconst (v := (nI 4)) (pc1 := 3) (pc := 2) k_S_isSlot_2 rfl (by decide) ?_
    | (refine T_cS (As := [_, _, _]) (d1 := 1) (pc1 := 6) (pc := 3) k_S_isSlot_3 rfl (by decide) (Nat.le_of_ble_eq_true rfl) rfl o_S_isWithin l_S_77 rfl (c_S_isWithin (fun hw => ?_) (fun hw => ?_)) <;> try dsimp only [psh])
    | refine T_retI (pc := 6) k_S_isSlot_6 rfl (by first | rfl | decide | assumption) ?_)
  · exact kt (by constructor <;> omega)
  · exact kf (fun h => hw (by constructor <;> omega))
theorem c_S_areSpots {v w : Int32} (kt : rg 8 v ∧ rg 8 w → K (some (.int (nI 1))) g I) (kf : ¬ (rg 8 v ∧ rg 8 w) → K (some (.int (nI 0))) g I) : Cl 3 M_S_areSpots [.int v, .int w] g I K := by
  show Rl 3 M_S_areSpots 0 [some (.int v), some (.int w)] [] g I K
  repeat' (first
    | (refine T_iload_n (pc1 := 1) (pc := 0) k_S_areSpots_0 rfl rfl ?_ <;> try ((refine T_cS (As := [_]) (d1 := 2) (pc1 := 4) (pc := 1) k_S_areSpots_1 rfl (by decide) (Nat.le_of_ble_eq_true rfl) rfl o_S_isSpot l_S_212 rfl (c_S_isSpot (fun hw => ?_) (fun hw => ?_)) <;> try dsimp only [psh]) <;> try ((first | (with_reducible refine T_if_eqN (tgt := 18) (pc1 := 7) (pc := 4) k_S_areSpots_4 (by decide) (by decide) (by omega) (fun hc => ?_) (fun hc => ?_) <;> first | (exfalso; omega) | skip) | refine T_if_eq_t (tgt := 18) (pc := 4) k_S_areSpots_4 rfl (by decide) ?_ | refine T_if_eq_f (tgt := 18) (pc1 := 7) (pc := 4) k_S_areSpots_4 rfl rfl (by decide) ?_ | refine T_if_eq (tgt := 18) (pc1 := 7) (pc := 4) k_S_areSpots_4 rfl rfl (fun hc => ?_) (fun hc => ?_)))))
    | (refine T_iload_n (pc1 := 8) (pc := 7) k_S_areSpots_7 rfl rfl ?_ <;> try ((refine T_cS (As := [_]) (d1 := 2) (pc1 := 11) (pc := 8) k_S_areSpots_8 rfl (by decide) (Nat.le_of_ble_eq_true rfl) rfl o_S_isSpot l_S_212 rfl (c_S_isSpot (fun hw => ?_) (fun hw => ?_)) <;> try dsimp only [psh]) <;> try ((first | (with_reducible refine T_if_eqN (tgt := 18) (pc1 := 14) (pc := 11) k_S_areSpots_11 (by decide) (by decide) (by omega) (fun hc => ?_) (fun hc => ?_) <;> first | (exfalso; omega) | skip) | refine T_if_eq_t (tgt := 18) (pc := 11) k_S_areSpots_11 rfl (by decide) ?_ | refine T_if_eq_f (tgt := 18) (pc1 := 14) (pc := 11) k_S_areSpots_11 rfl rfl (by decide) ?_ | refine T_if_eq (tgt := 18) (pc1 := 14) (pc := 11) k_S_areSpots_11 rfl rfl (fun hc => ?_) (fun hc => ?_)))))
    | (refine T_iconst (v := (nI 1)) (pc1 := 15) (pc := 14) k_S_areSpots_14 rfl (by decide) ?_ <;> try (refine T_goto (tgt := 19) (pc := 15) k_S_areSpots_15 rfl ?_))
    | (refine T_iconst (v := (nI 0)) (pc1 := 19) (pc := 18) k_S_areSpots_18 rfl (by decide) ?_)
    | (refine T_retI (pc := 19) k_S_areSpots_19 rfl (by first | rfl | decide | assumption) ?_)
    | (refine T_cS (As := [_]) (d1 := 2) (pc1 := 4) (pc := 1) k_S_areSpots_1 rfl (by decide) (Nat.le_of_ble_eq_true rfl) rfl o_S_isSpot l_S_212 rfl (c_S_isSpot (fun hw => ?_) (fun hw => ?_)) <;> try dsimp only [psh])
    | (with_reducible refine T_if_eqN (tgt := 18) (pc1 := 7) (pc := 4) k_S_areSpots_4 (by decide) (by decide) (by omega) (fun hc => ?_) (fun hc => ?_) <;> first | (exfalso; omega) | skip)
    | refine T_if_eq_t (tgt := 18) (pc := 4) k_S_areSpots_4 rfl (by decide) ?_
    | refine T_if_eq_f (tgt := 18) (pc1 := 7) (pc := 4) k_S_areSpots_4 rfl rfl (by decide) ?_
    | refine T_if_eq (tgt := 18) (pc1 := 7) (pc := 4) k_S_areSpots_4 rfl rfl (fun hc => ?_) (fun hc => ?_)
    | (refine T_cS (As := [_]) (d1 := 2) (pc1 := 11) (pc := 8) k_S_areSpots_8 rfl (by decide) (Nat.le_of_ble_eq_true rfl) rfl o_S_isSpot l_S_212 rfl (c_S_isSpot (fun hw => ?_) (fun hw => ?_)) <;> try dsimp only [psh])
    | (with_reducible refine T_if_eqN (tgt := 18) (pc1 := 14) (pc := 11) k_S_areSpots_11 (by decide) (by decide) (by omega) (fun hc => ?_) (fun hc => ?_) <;> first | (exfalso; omega) | skip)
    | refine T_if_eq_t (tgt := 18) (pc := 11) k_S_areSpots_11 rfl (by decide) ?_
    | refine T_if_eq_f (tgt := 18) (pc1 := 14) (pc := 11) k_S_areSpots_11 rfl rfl (by decide) ?_
    | refine T_if_eq (tgt := 18) (pc1 := 14) (pc := 11) k_S_areSpots_11 rfl rfl (fun hc => ?_) (fun hc => ?_)
    | refine T_goto (tgt := 19) (pc := 15) k_S_areSpots_15 rfl ?_)
  · exact kt ⟨by assumption, by assumption⟩
  · exact kf (fun h => hw h.2)
  · exact kf (fun h => hw h.1)
/-! a bit in cell i -/
theorem c_B_become {i : Nat} {k f t l : Int32} (hb : isAg g i 0 6) (kk : K none g (pI (pI (pI (pI (pI (pI I i 0 k) i 1 f) i 2 t) i 3 l) i 4 (nI 0)) i 5 cNONE)) : Cl 1 M_B_become [.ref i, .int k, .int f, .int t, .int l] g I K := by
  show Rl 1 M_B_become 0 [some (.ref i), some (.int k), some (.int f), some (.int t), some (.int l)] [] g I K
  repeat' (first
    | ((first | refine T_aload_n (pc1 := 1) (pc := 0) k_B_become_0 rfl rfl ?_ | refine T_aload_nN (pc1 := 1) (pc := 0) k_B_become_0 rfl rfl ?_) <;> try (refine T_iload_n (pc1 := 2) (pc := 1) k_B_become_1 rfl rfl ?_ <;> try (refine T_putI (pc1 := 5) (pc := 2) k_B_become_2 rfl f_B_9 rfl (by first | assumption | exact ga G (by decide) rfl) (by first | rfl | decide | assumption) (by first | rfl | decide | assumption) ?_ <;> try ((first | refine T_aload_n (pc1 := 6) (pc := 5) k_B_become_5 rfl rfl ?_ | refine T_aload_nN (pc1 := 6) (pc := 5) k_B_become_5 rfl rfl ?_) <;> try (refine T_iload_n (pc1 := 7) (pc := 6) k_B_become_6 rfl rfl ?_ <;> try (refine T_putI (pc1 := 10) (pc := 7) k_B_become_7 rfl f_B_15 rfl (by first | assumption | exact ga G (by decide) rfl) (by first | rfl | decide | assumption) (by first | rfl | decide | assumption) ?_ <;> try ((first | refine T_aload_n (pc1 := 11) (pc := 10) k_B_become_10 rfl rfl ?_ | refine T_aload_nN (pc1 := 11) (pc := 10) k_B_become_10 rfl rfl ?_) <;> try (refine T_iload_n (pc1 := 12) (pc := 11) k_B_become_11 rfl rfl ?_ <;> try (refine T_putI (pc1 := 15) (pc := 12) k_B_become_12 rfl f_B_18 rfl (by first | assumption | exact ga G (by decide) rfl) (by first | rfl | decide | assumption) (by first | rfl | decide | assumption) ?_ <;> try ((first | refine T_aload_n (pc1 := 16) (pc := 15) k_B_become_15 rfl rfl ?_ | refine T_aload_nN (pc1 := 16) (pc := 15) k_B_become_15 rfl rfl ?_) <;> try (refine T_iload (pc1 := 18) (pc := 16) k_B_become_16 rfl rfl ?_ <;> try (refine T_putI (pc1 := 21) (pc := 18) k_B_become_18 rfl f_B_21 rfl (by first | assumption | exact ga G (by decide) rfl) (by first | rfl | decide | assumption) (by first | rfl | decide | assumption) ?_ <;> try ((first | refine T_aload_n (pc1 := 22) (pc := 21) k_B_become_21 rfl rfl ?_ | refine T_aload_nN (pc1 := 22) (pc := 21) k_B_become_21 rfl rfl ?_) <;> try (refine T_iconst (v := (nI 0)) (pc1 := 23) (pc := 22) k_B_become_22 rfl (by decide) ?_ <;> try (refine T_putI (pc1 := 26) (pc := 23) k_B_become_23 rfl f_B_24 rfl (by first | assumption | exact ga G (by decide) rfl) (by first | rfl | decide | assumption) (by first | rfl | decide | assumption) ?_ <;> try ((first | refine T_aload_n (pc1 := 27) (pc := 26) k_B_become_26 rfl rfl ?_ | refine T_aload_nN (pc1 := 27) (pc := 26) k_B_become_26 rfl rfl ?_) <;> try (refine T_ldc (v := (-1000000005)) (pc1 := 29) (pc := 27) k_B_become_27 rfl c_B_27 ?_ <;> try (refine T_putI (pc1 := 32) (pc := 29) k_B_become_29 rfl f_B_28 rfl (by first | assumption | exact ga G (by decide) rfl) (by first | rfl | decide | assumption) (by first | rfl | decide | assumption) ?_ <;> try (refine T_retV (pc := 32) k_B_become_32 rfl ?_)))))))))))))))))))
    | refine T_iload_n (pc1 := 2) (pc := 1) k_B_become_1 rfl rfl ?_
    | refine T_putI (pc1 := 5) (pc := 2) k_B_become_2 rfl f_B_9 rfl (by first | assumption | exact ga G (by decide) rfl) (by first | rfl | decide | assumption) (by first | rfl | decide | assumption) ?_
    | refine T_aload_n (pc1 := 6) (pc := 5) k_B_become_5 rfl rfl ?_
    | refine T_aload_nN (pc1 := 6) (pc := 5) k_B_become_5 rfl rfl ?_
    | refine T_iload_n (pc1 := 7) (pc := 6) k_B_become_6 rfl rfl ?_
    | refine T_putI (pc1 := 10) (pc := 7) k_B_become_7 rfl f_B_15 rfl (by first | assumption | exact ga G (by decide) rfl) (by first | rfl | decide | assumption) (by first | rfl | decide | assumption) ?_
    | refine T_aload_n (pc1 := 11) (pc := 10) k_B_become_10 rfl rfl ?_
    | refine T_aload_nN (pc1 := 11) (pc := 10) k_B_become_10 rfl rfl ?_
    | refine T_iload_n (pc1 := 12) (pc := 11) k_B_become_11 rfl rfl ?_
    | refine T_putI (pc1 := 15) (pc := 12) k_B_become_12 rfl f_B_18 rfl (by first | assumption | exact ga G (by decide) rfl) (by first | rfl | decide | assumption) (by first | rfl | decide | assumption) ?_
    | refine T_aload_n (pc1 := 16) (pc := 15) k_B_become_15 rfl rfl ?_
    | refine T_aload_nN (pc1 := 16) (pc := 15) k_B_become_15 rfl rfl ?_
    | refine T_iload (pc1 := 18) (pc := 16) k_B_become_16 rfl rfl ?_
    | refine T_putI (pc1 := 21) (pc := 18) k_B_become_18 rfl f_B_21 rfl (by first | assumption | exact ga G (by decide) rfl) (by first | rfl | decide | assumption) (by first | rfl | decide | assumption) ?_
    | refine T_aload_n (pc1 := 22) (pc := 21) k_B_become_21 rfl rfl ?_
    | refine T_aload_nN (pc1 := 22) (pc := 21) k_B_become_21 rfl rfl ?_
    | refine T_iconst (v := (nI 0)) (pc1 := 23) (pc := 22) k_B_become_22 rfl (by decide) ?_
    | refine T_putI (pc1 := 26) (pc := 23) k_B_become_23 rfl f_B_24 rfl (by first | assumption | exact ga G (by decide) rfl) (by first | rfl | decide | assumption) (by first | rfl | decide | assumption) ?_
    | refine T_aload_n (pc1 := 27) (pc := 26) k_B_become_26 rfl rfl ?_
    | refine T_aload_nN (pc1 := 27) (pc := 26) k_B_become_26 rfl rfl ?_
    | refine T_ldc (v := (-1000000005)) (pc1 := 29) (pc := 27) k_B_become_27 rfl c_B_27 ?_
    | refine T_putI (pc1 := 32) (pc := 29) k_B_become_29 rfl f_B_28 rfl (by first | assumption | exact ga G (by decide) rfl) (by first | rfl | decide | assumption) (by first | rfl | decide | assumption) ?_
    | refine T_retV (pc := 32) k_B_become_32 rfl ?_)
  exact kk
theorem c_B_takeFrom {i j : Nat} (hb : isAg g i 0 6) (hb2 : isAg g j 0 6) (hne : j ≠ i) (kk : ∀ J, eqx [i] I J → (∀ k, k < 6 → J i k = I j k) → K none g J) : Cl 1 M_B_takeFrom [.ref i, .ref j] g I K := by
  show Rl 1 M_B_takeFrom 0 [some (.ref i), some (.ref j)] [] g I K
  repeat' (first
    | ((first | refine T_aload_n (pc1 := 1) (pc := 0) k_B_takeFrom_0 rfl rfl ?_ | refine T_aload_nN (pc1 := 1) (pc := 0) k_B_takeFrom_0 rfl rfl ?_) <;> try ((first | refine T_aload_n (pc1 := 2) (pc := 1) k_B_takeFrom_1 rfl rfl ?_ | refine T_aload_nN (pc1 := 2) (pc := 1) k_B_takeFrom_1 rfl rfl ?_) <;> try (refine T_getV (pc1 := 5) (pc := 2) k_B_takeFrom_2 rfl f_B_9 rfl (by first | assumption | exact ga G (by decide) rfl) (by first | assumption | (simp (disch := omega) only [pI_eq, pI_row, pI_col, va_up_self, va_up_ne, ne_eq, not_false_eq_true] <;> rfl) | rfl) ?_ <;> try (refine T_putI (pc1 := 8) (pc := 5) k_B_takeFrom_5 rfl f_B_9 rfl (by first | assumption | exact ga G (by decide) rfl) (by first | rfl | decide | assumption) (by first | rfl | decide | assumption) ?_ <;> try ((first | refine T_aload_n (pc1 := 9) (pc := 8) k_B_takeFrom_8 rfl rfl ?_ | refine T_aload_nN (pc1 := 9) (pc := 8) k_B_takeFrom_8 rfl rfl ?_) <;> try ((first | refine T_aload_n (pc1 := 10) (pc := 9) k_B_takeFrom_9 rfl rfl ?_ | refine T_aload_nN (pc1 := 10) (pc := 9) k_B_takeFrom_9 rfl rfl ?_) <;> try (refine T_getV (pc1 := 13) (pc := 10) k_B_takeFrom_10 rfl f_B_15 rfl (by first | assumption | exact ga G (by decide) rfl) (by first | assumption | (simp (disch := omega) only [pI_eq, pI_row, pI_col, va_up_self, va_up_ne, ne_eq, not_false_eq_true] <;> rfl) | rfl) ?_ <;> try (refine T_putI (pc1 := 16) (pc := 13) k_B_takeFrom_13 rfl f_B_15 rfl (by first | assumption | exact ga G (by decide) rfl) (by first | rfl | decide | assumption) (by first | rfl | decide | assumption) ?_ <;> try ((first | refine T_aload_n (pc1 := 17) (pc := 16) k_B_takeFrom_16 rfl rfl ?_ | refine T_aload_nN (pc1 := 17) (pc := 16) k_B_takeFrom_16 rfl rfl ?_) <;> try ((first | refine T_aload_n (pc1 := 18) (pc := 17) k_B_takeFrom_17 rfl rfl ?_ | refine T_aload_nN (pc1 := 18) (pc := 17) k_B_takeFrom_17 rfl rfl ?_) <;> try (refine T_getV (pc1 := 21) (pc := 18) k_B_takeFrom_18 rfl f_B_18 rfl (by first | assumption | exact ga G (by decide) rfl) (by first | assumption | (simp (disch := omega) only [pI_eq, pI_row, pI_col, va_up_self, va_up_ne, ne_eq, not_false_eq_true] <;> rfl) | rfl) ?_ <;> try (refine T_putI (pc1 := 24) (pc := 21) k_B_takeFrom_21 rfl f_B_18 rfl (by first | assumption | exact ga G (by decide) rfl) (by first | rfl | decide | assumption) (by first | rfl | decide | assumption) ?_ <;> try ((first | refine T_aload_n (pc1 := 25) (pc := 24) k_B_takeFrom_24 rfl rfl ?_ | refine T_aload_nN (pc1 := 25) (pc := 24) k_B_takeFrom_24 rfl rfl ?_) <;> try ((first | refine T_aload_n (pc1 := 26) (pc := 25) k_B_takeFrom_25 rfl rfl ?_ | refine T_aload_nN (pc1 := 26) (pc := 25) k_B_takeFrom_25 rfl rfl ?_) <;> try (refine T_getV (pc1 := 29) (pc := 26) k_B_takeFrom_26 rfl f_B_21 rfl (by first | assumption | exact ga G (by decide) rfl) (by first | assumption | (simp (disch := omega) only [pI_eq, pI_row, pI_col, va_up_self, va_up_ne, ne_eq, not_false_eq_true] <;> rfl) | rfl) ?_ <;> try (refine T_putI (pc1 := 32) (pc := 29) k_B_takeFrom_29 rfl f_B_21 rfl (by first | assumption | exact ga G (by decide) rfl) (by first | rfl | decide | assumption) (by first | rfl | decide | assumption) ?_ <;> try ((first | refine T_aload_n (pc1 := 33) (pc := 32) k_B_takeFrom_32 rfl rfl ?_ | refine T_aload_nN (pc1 := 33) (pc := 32) k_B_takeFrom_32 rfl rfl ?_) <;> try ((first | refine T_aload_n (pc1 := 34) (pc := 33) k_B_takeFrom_33 rfl rfl ?_ | refine T_aload_nN (pc1 := 34) (pc := 33) k_B_takeFrom_33 rfl rfl ?_) <;> try (refine T_getV (pc1 := 37) (pc := 34) k_B_takeFrom_34 rfl f_B_24 rfl (by first | assumption | exact ga G (by decide) rfl) (by first | assumption | (simp (disch := omega) only [pI_eq, pI_row, pI_col, va_up_self, va_up_ne, ne_eq, not_false_eq_true] <;> rfl) | rfl) ?_ <;> try (refine T_putI (pc1 := 40) (pc := 37) k_B_takeFrom_37 rfl f_B_24 rfl (by first | assumption | exact ga G (by decide) rfl) (by first | rfl | decide | assumption) (by first | rfl | decide | assumption) ?_ <;> try ((first | refine T_aload_n (pc1 := 41) (pc := 40) k_B_takeFrom_40 rfl rfl ?_ | refine T_aload_nN (pc1 := 41) (pc := 40) k_B_takeFrom_40 rfl rfl ?_) <;> try ((first | refine T_aload_n (pc1 := 42) (pc := 41) k_B_takeFrom_41 rfl rfl ?_ | refine T_aload_nN (pc1 := 42) (pc := 41) k_B_takeFrom_41 rfl rfl ?_) <;> try (refine T_getV (pc1 := 45) (pc := 42) k_B_takeFrom_42 rfl f_B_28 rfl (by first | assumption | exact ga G (by decide) rfl) (by first | assumption | (simp (disch := omega) only [pI_eq, pI_row, pI_col, va_up_self, va_up_ne, ne_eq, not_false_eq_true] <;> rfl) | rfl) ?_ <;> try (refine T_putI (pc1 := 48) (pc := 45) k_B_takeFrom_45 rfl f_B_28 rfl (by first | assumption | exact ga G (by decide) rfl) (by first | rfl | decide | assumption) (by first | rfl | decide | assumption) ?_ <;> try (refine T_retV (pc := 48) k_B_takeFrom_48 rfl ?_)))))))))))))))))))))))))
    | refine T_aload_n (pc1 := 2) (pc := 1) k_B_takeFrom_1 rfl rfl ?_
    | refine T_aload_nN (pc1 := 2) (pc := 1) k_B_takeFrom_1 rfl rfl ?_
    | refine T_getV (pc1 := 5) (pc := 2) k_B_takeFrom_2 rfl f_B_9 rfl (by first | assumption | exact ga G (by decide) rfl) (by first | assumption | (simp (disch := omega) only [pI_eq, pI_row, pI_col, va_up_self, va_up_ne, ne_eq, not_false_eq_true] <;> rfl) | rfl) ?_
    | refine T_putI (pc1 := 8) (pc := 5) k_B_takeFrom_5 rfl f_B_9 rfl (by first | assumption | exact ga G (by decide) rfl) (by first | rfl | decide | assumption) (by first | rfl | decide | assumption) ?_
    | refine T_aload_n (pc1 := 9) (pc := 8) k_B_takeFrom_8 rfl rfl ?_
    | refine T_aload_nN (pc1 := 9) (pc := 8) k_B_takeFrom_8 rfl rfl ?_
    | refine T_aload_n (pc1 := 10) (pc := 9) k_B_takeFrom_9 rfl rfl ?_
    | refine T_aload_nN (pc1 := 10) (pc := 9) k_B_takeFrom_9 rfl rfl ?_
    | refine T_getV (pc1 := 13) (pc := 10) k_B_takeFrom_10 rfl f_B_15 rfl (by first | assumption | exact ga G (by decide) rfl) (by first | assumption | (simp (disch := omega) only [pI_eq, pI_row, pI_col, va_up_self, va_up_ne, ne_eq, not_false_eq_true] <;> rfl) | rfl) ?_
    | refine T_putI (pc1 := 16) (pc := 13) k_B_takeFrom_13 rfl f_B_15 rfl (by first | assumption | exact ga G (by decide) rfl) (by first | rfl | decide | assumption) (by first | rfl | decide | assumption) ?_
    | refine T_aload_n (pc1 := 17) (pc := 16) k_B_takeFrom_16 rfl rfl ?_
    | refine T_aload_nN (pc1 := 17) (pc := 16) k_B_takeFrom_16 rfl rfl ?_
    | refine T_aload_n (pc1 := 18) (pc := 17) k_B_takeFrom_17 rfl rfl ?_
    | refine T_aload_nN (pc1 := 18) (pc := 17) k_B_takeFrom_17 rfl rfl ?_
    | refine T_getV (pc1 := 21) (pc := 18) k_B_takeFrom_18 rfl f_B_18 rfl (by first | assumption | exact ga G (by decide) rfl) (by first | assumption | (simp (disch := omega) only [pI_eq, pI_row, pI_col, va_up_self, va_up_ne, ne_eq, not_false_eq_true] <;> rfl) | rfl) ?_
    | refine T_putI (pc1 := 24) (pc := 21) k_B_takeFrom_21 rfl f_B_18 rfl (by first | assumption | exact ga G (by decide) rfl) (by first | rfl | decide | assumption) (by first | rfl | decide | assumption) ?_
    | refine T_aload_n (pc1 := 25) (pc := 24) k_B_takeFrom_24 rfl rfl ?_
    | refine T_aload_nN (pc1 := 25) (pc := 24) k_B_takeFrom_24 rfl rfl ?_
    | refine T_aload_n (pc1 := 26) (pc := 25) k_B_takeFrom_25 rfl rfl ?_
    | refine T_aload_nN (pc1 := 26) (pc := 25) k_B_takeFrom_25 rfl rfl ?_
    | refine T_getV (pc1 := 29) (pc := 26) k_B_takeFrom_26 rfl f_B_21 rfl (by first | assumption | exact ga G (by decide) rfl) (by first | assumption | (simp (disch := omega) only [pI_eq, pI_row, pI_col, va_up_self, va_up_ne, ne_eq, not_false_eq_true] <;> rfl) | rfl) ?_
    | refine T_putI (pc1 := 32) (pc := 29) k_B_takeFrom_29 rfl f_B_21 rfl (by first | assumption | exact ga G (by decide) rfl) (by first | rfl | decide | assumption) (by first | rfl | decide | assumption) ?_
    | refine T_aload_n (pc1 := 33) (pc := 32) k_B_takeFrom_32 rfl rfl ?_
    | refine T_aload_nN (pc1 := 33) (pc := 32) k_B_takeFrom_32 rfl rfl ?_
    | refine T_aload_n (pc1 := 34) (pc := 33) k_B_takeFrom_33 rfl rfl ?_
    | refine T_aload_nN (pc1 := 34) (pc := 33) k_B_takeFrom_33 rfl rfl ?_
    | refine T_getV (pc1 := 37) (pc := 34) k_B_takeFrom_34 rfl f_B_24 rfl (by first | assumption | exact ga G (by decide) rfl) (by first | assumption | (simp (disch := omega) only [pI_eq, pI_row, pI_col, va_up_self, va_up_ne, ne_eq, not_false_eq_true] <;> rfl) | rfl) ?_
    | refine T_putI (pc1 := 40) (pc := 37) k_B_takeFrom_37 rfl f_B_24 rfl (by first | assumption | exact ga G (by decide) rfl) (by first | rfl | decide | assumption) (by first | rfl | decide | assumption) ?_
    | refine T_aload_n (pc1 := 41) (pc := 40) k_B_takeFrom_40 rfl rfl ?_
    | refine T_aload_nN (pc1 := 41) (pc := 40) k_B_takeFrom_40 rfl rfl ?_
    | refine T_aload_n (pc1 := 42) (pc := 41) k_B_takeFrom_41 rfl rfl ?_
    | refine T_aload_nN (pc1 := 42) (pc := 41) k_B_takeFrom_41 rfl rfl ?_
    | refine T_getV (pc1 := 45) (pc := 42) k_B_takeFrom_42 rfl f_B_28 rfl (by first | assumption | exact ga G (by decide) rfl) (by first | assumption | (simp (disch := omega) only [pI_eq, pI_row, pI_col, va_up_self, va_up_ne, ne_eq, not_false_eq_true] <;> rfl) | rfl) ?_
    | refine T_putI (pc1 := 48) (pc := 45) k_B_takeFrom_45 rfl f_B_28 rfl (by first | assumption | exact ga G (by decide) rfl) (by first | rfl | decide | assumption) (by first | rfl | decide | assumption) ?_
    | refine T_retV (pc := 48) k_B_takeFrom_48 rfl ?_)
  refine kk _ (eqx_pI (eqx_pI (eqx_pI (eqx_pI (eqx_pI (eqx_pI eqx_rf _ (by simp)) _ (by simp)) _ (by simp)) _ (by simp)) _ (by simp)) _ (by simp)) (fun k hk => ?_)
  obtain rfl | rfl | rfl | rfl | rfl | rfl : k = 0 ∨ k = 1 ∨ k = 2 ∨ k = 3 ∨ k = 4 ∨ k = 5 := by omega
  all_goals simp (disch := first | exact hne | decide) only [pI_eq, pI_col, pI_row, ne_eq]
theorem c_B_isOf {i k o : Nat} (hb : isAg g i 0 6) (h0 : I i 0 = nI k) (hk : k < 6) (ho : o < 6) (kt : und k o = true → K (some (.int (nI 1))) g I) (kf : und k o = false → K (some (.int (nI 0))) g I) : Cl 1 M_B_isOf [.ref i, .int (nI o)] g I K := by
  show Rl 1 M_B_isOf 0 [some (.ref i), some (.int (nI o)), none, none] [] g I K
  obtain rfl | rfl | rfl | rfl | rfl | rfl : k = 0 ∨ k = 1 ∨ k = 2 ∨ k = 3 ∨ k = 4 ∨ k = 5 := by omega
  all_goals
    repeat' (first
      | ((first | refine T_aload_n (pc1 := 1) (pc := 0) k_B_isOf_0 rfl rfl ?_ | refine T_aload_nN (pc1 := 1) (pc := 0) k_B_isOf_0 rfl rfl ?_) <;> try (refine T_getV (pc1 := 4) (pc := 1) k_B_isOf_1 rfl f_B_9 rfl (by first | assumption | exact ga G (by decide) rfl) (by first | assumption | (simp (disch := omega) only [pI_eq, pI_row, pI_col, va_up_self, va_up_ne, ne_eq, not_false_eq_true] <;> rfl) | rfl) ?_ <;> try (refine T_istore_n (pc1 := 5) (pc := 4) k_B_isOf_4 rfl (Nat.le_of_ble_eq_true rfl) ?_ <;> try (refine T_iconst (v := (nI 0)) (pc1 := 6) (pc := 5) k_B_isOf_5 rfl (by decide) ?_ <;> try (refine T_istore_n (pc1 := 7) (pc := 6) k_B_isOf_6 rfl (Nat.le_of_ble_eq_true rfl) ?_)))))
      | (refine T_iload_n (pc1 := 8) (pc := 7) k_B_isOf_7 rfl rfl ?_ <;> try (refine T_bipush (v := (nI 6)) (pc1 := 10) (pc := 8) k_B_isOf_8 rfl (by decide) ?_ <;> try ((first | (with_reducible refine T_icmp_geN (tgt := 42) (pc1 := 13) (pc := 10) k_B_isOf_10 (by decide) (by decide) (by omega) (by omega) (fun hc => ?_) (fun hc => ?_) <;> first | (exfalso; omega) | skip) | refine T_icmp_ge_t (tgt := 42) (pc := 10) k_B_isOf_10 rfl (by decide) ?_ | refine T_icmp_ge_f (tgt := 42) (pc1 := 13) (pc := 10) k_B_isOf_10 rfl rfl (by decide) ?_ | refine T_icmp_ge (tgt := 42) (pc1 := 13) (pc := 10) k_B_isOf_10 rfl rfl (fun hc => ?_) (fun hc => ?_)))))
      | (refine T_iload_n (pc1 := 14) (pc := 13) k_B_isOf_13 rfl rfl ?_ <;> try ((first | (with_reducible refine T_if_ltN (tgt := 42) (pc1 := 17) (pc := 14) k_B_isOf_14 (by decide) (by decide) (by omega) ?_ <;> first | (exfalso; omega) | skip) | refine T_if_lt_t (tgt := 42) (pc := 14) k_B_isOf_14 rfl (by decide) ?_ | refine T_if_lt_f (tgt := 42) (pc1 := 17) (pc := 14) k_B_isOf_14 rfl rfl (by decide) ?_ | refine T_if_lt (tgt := 42) (pc1 := 17) (pc := 14) k_B_isOf_14 rfl rfl (fun hc => ?_) (fun hc => ?_))))
      | (refine T_iload_n (pc1 := 18) (pc := 17) k_B_isOf_17 rfl rfl ?_ <;> try (refine T_bipush (v := (nI 6)) (pc1 := 20) (pc := 18) k_B_isOf_18 rfl (by decide) ?_ <;> try ((first | (with_reducible refine T_icmp_geN (tgt := 42) (pc1 := 23) (pc := 20) k_B_isOf_20 (by decide) (by decide) (by omega) (by omega) (fun hc => ?_) (fun hc => ?_) <;> first | (exfalso; omega) | skip) | refine T_icmp_ge_t (tgt := 42) (pc := 20) k_B_isOf_20 rfl (by decide) ?_ | refine T_icmp_ge_f (tgt := 42) (pc1 := 23) (pc := 20) k_B_isOf_20 rfl rfl (by decide) ?_ | refine T_icmp_ge (tgt := 42) (pc1 := 23) (pc := 20) k_B_isOf_20 rfl rfl (fun hc => ?_) (fun hc => ?_)))))
      | (refine T_iload_n (pc1 := 24) (pc := 23) k_B_isOf_23 rfl rfl ?_ <;> try (refine T_iload_n (pc1 := 25) (pc := 24) k_B_isOf_24 rfl rfl ?_ <;> try ((first | (with_reducible refine T_icmp_neN (tgt := 30) (pc1 := 28) (pc := 25) k_B_isOf_25 (by decide) (by decide) (by omega) (by omega) (fun hc => ?_) (fun hc => ?_) <;> first | (exfalso; omega) | skip) | refine T_icmp_ne_t (tgt := 30) (pc := 25) k_B_isOf_25 rfl (by decide) ?_ | refine T_icmp_ne_f (tgt := 30) (pc1 := 28) (pc := 25) k_B_isOf_25 rfl rfl (by decide) ?_ | refine T_icmp_ne (tgt := 30) (pc1 := 28) (pc := 25) k_B_isOf_25 rfl rfl (fun hc => ?_) (fun hc => ?_)))))
      | (refine T_iconst (v := (nI 1)) (pc1 := 29) (pc := 28) k_B_isOf_28 rfl (by decide) ?_ <;> try (refine T_retI (pc := 29) k_B_isOf_29 rfl (by first | rfl | decide | assumption) ?_))
      | (refine T_gsA (pc1 := 33) (pc := 30) k_B_isOf_30 rfl f_B_31 ?_ <;> try (refine T_iload_n (pc1 := 34) (pc := 33) k_B_isOf_33 rfl rfl ?_ <;> try ((first | refine T_abldV (v := (-1)) (pc1 := 35) (pc := 34) k_B_isOf_34 rfl (vp_in_nI (by decide) (by decide)) rfl ?_ | refine T_abldV (v := (nI 0)) (pc1 := 35) (pc := 34) k_B_isOf_34 rfl (vp_in_nI (by decide) (by decide)) rfl ?_ | refine T_abldV (v := (nI 1)) (pc1 := 35) (pc := 34) k_B_isOf_34 rfl (vp_in_nI (by decide) (by decide)) rfl ?_ | refine T_abldV (v := (nI 2)) (pc1 := 35) (pc := 34) k_B_isOf_34 rfl (vp_in_nI (by decide) (by decide)) rfl ?_ | refine T_ialdN (pc1 := 35) (pc := 34) k_B_isOf_34 rfl (by first | assumption | exact ga G (by decide) rfl) (by omega) (by omega) (by first | assumption | (simp (disch := omega) only [pI_eq, pI_row, pI_col, va_up_self, va_up_ne, ne_eq, not_false_eq_true] <;> rfl) | rfl) ?_ | refine T_iald (pc1 := 35) (pc := 34) k_B_isOf_34 rfl (by first | assumption | exact ga G (by decide) rfl) (by assumption) ?_) <;> try (refine T_istore_n (pc1 := 36) (pc := 35) k_B_isOf_35 rfl (Nat.le_of_ble_eq_true rfl) ?_ <;> try ((first | refine T_iincN (b := 1) (pc1 := 39) (pc := 36) k_B_isOf_36 rfl rfl (by decide) ?_ | refine T_iinc (v := (nI 1)) (pc1 := 39) (pc := 36) k_B_isOf_36 rfl rfl (by decide) ?_) <;> try (refine T_goto (tgt := 7) (pc := 39) k_B_isOf_39 rfl ?_))))))
      | (refine T_iconst (v := (nI 0)) (pc1 := 43) (pc := 42) k_B_isOf_42 rfl (by decide) ?_ <;> try (refine T_retI (pc := 43) k_B_isOf_43 rfl (by first | rfl | decide | assumption) ?_))
      | refine T_getV (pc1 := 4) (pc := 1) k_B_isOf_1 rfl f_B_9 rfl (by first | assumption | exact ga G (by decide) rfl) (by first | assumption | (simp (disch := omega) only [pI_eq, pI_row, pI_col, va_up_self, va_up_ne, ne_eq, not_false_eq_true] <;> rfl) | rfl) ?_
      | refine T_istore_n (pc1 := 5) (pc := 4) k_B_isOf_4 rfl (Nat.le_of_ble_eq_true rfl) ?_
      | refine T_iconst (v := (nI 0)) (pc1 := 6) (pc := 5) k_B_isOf_5 rfl (by decide) ?_
      | refine T_istore_n (pc1 := 7) (pc := 6) k_B_isOf_6 rfl (Nat.le_of_ble_eq_true rfl) ?_
      | refine T_bipush (v := (nI 6)) (pc1 := 10) (pc := 8) k_B_isOf_8 rfl (by decide) ?_
      | (with_reducible refine T_icmp_geN (tgt := 42) (pc1 := 13) (pc := 10) k_B_isOf_10 (by decide) (by decide) (by omega) (by omega) (fun hc => ?_) (fun hc => ?_) <;> first | (exfalso; omega) | skip)
      | refine T_icmp_ge_t (tgt := 42) (pc := 10) k_B_isOf_10 rfl (by decide) ?_
      | refine T_icmp_ge_f (tgt := 42) (pc1 := 13) (pc := 10) k_B_isOf_10 rfl rfl (by decide) ?_
      | refine T_icmp_ge (tgt := 42) (pc1 := 13) (pc := 10) k_B_isOf_10 rfl rfl (fun hc => ?_) (fun hc => ?_)
      | (with_reducible refine T_if_ltN (tgt := 42) (pc1 := 17) (pc := 14) k_B_isOf_14 (by decide) (by decide) (by omega) ?_ <;> first | (exfalso; omega) | skip)
      | refine T_if_lt_t (tgt := 42) (pc := 14) k_B_isOf_14 rfl (by decide) ?_
      | refine T_if_lt_f (tgt := 42) (pc1 := 17) (pc := 14) k_B_isOf_14 rfl rfl (by decide) ?_
      | refine T_if_lt (tgt := 42) (pc1 := 17) (pc := 14) k_B_isOf_14 rfl rfl (fun hc => ?_) (fun hc => ?_)
      | refine T_bipush (v := (nI 6)) (pc1 := 20) (pc := 18) k_B_isOf_18 rfl (by decide) ?_
      | (with_reducible refine T_icmp_geN (tgt := 42) (pc1 := 23) (pc := 20) k_B_isOf_20 (by decide) (by decide) (by omega) (by omega) (fun hc => ?_) (fun hc => ?_) <;> first | (exfalso; omega) | skip)
      | refine T_icmp_ge_t (tgt := 42) (pc := 20) k_B_isOf_20 rfl (by decide) ?_
      | refine T_icmp_ge_f (tgt := 42) (pc1 := 23) (pc := 20) k_B_isOf_20 rfl rfl (by decide) ?_
      | refine T_icmp_ge (tgt := 42) (pc1 := 23) (pc := 20) k_B_isOf_20 rfl rfl (fun hc => ?_) (fun hc => ?_)
      | refine T_iload_n (pc1 := 25) (pc := 24) k_B_isOf_24 rfl rfl ?_
      | (with_reducible refine T_icmp_neN (tgt := 30) (pc1 := 28) (pc := 25) k_B_isOf_25 (by decide) (by decide) (by omega) (by omega) (fun hc => ?_) (fun hc => ?_) <;> first | (exfalso; omega) | skip)
      | refine T_icmp_ne_t (tgt := 30) (pc := 25) k_B_isOf_25 rfl (by decide) ?_
      | refine T_icmp_ne_f (tgt := 30) (pc1 := 28) (pc := 25) k_B_isOf_25 rfl rfl (by decide) ?_
      | refine T_icmp_ne (tgt := 30) (pc1 := 28) (pc := 25) k_B_isOf_25 rfl rfl (fun hc => ?_) (fun hc => ?_)
      | refine T_retI (pc := 29) k_B_isOf_29 rfl (by first | rfl | decide | assumption) ?_
      | refine T_iload_n (pc1 := 34) (pc := 33) k_B_isOf_33 rfl rfl ?_
      | refine T_abldV (v := (-1)) (pc1 := 35) (pc := 34) k_B_isOf_34 rfl (vp_in_nI (by decide) (by decide)) rfl ?_
      | refine T_abldV (v := (nI 0)) (pc1 := 35) (pc := 34) k_B_isOf_34 rfl (vp_in_nI (by decide) (by decide)) rfl ?_
      | refine T_abldV (v := (nI 1)) (pc1 := 35) (pc := 34) k_B_isOf_34 rfl (vp_in_nI (by decide) (by decide)) rfl ?_
      | refine T_abldV (v := (nI 2)) (pc1 := 35) (pc := 34) k_B_isOf_34 rfl (vp_in_nI (by decide) (by decide)) rfl ?_
      | refine T_ialdN (pc1 := 35) (pc := 34) k_B_isOf_34 rfl (by first | assumption | exact ga G (by decide) rfl) (by omega) (by omega) (by first | assumption | (simp (disch := omega) only [pI_eq, pI_row, pI_col, va_up_self, va_up_ne, ne_eq, not_false_eq_true] <;> rfl) | rfl) ?_
      | refine T_iald (pc1 := 35) (pc := 34) k_B_isOf_34 rfl (by first | assumption | exact ga G (by decide) rfl) (by assumption) ?_
      | refine T_istore_n (pc1 := 36) (pc := 35) k_B_isOf_35 rfl (Nat.le_of_ble_eq_true rfl) ?_
      | refine T_iincN (b := 1) (pc1 := 39) (pc := 36) k_B_isOf_36 rfl rfl (by decide) ?_
      | refine T_iinc (v := (nI 1)) (pc1 := 39) (pc := 36) k_B_isOf_36 rfl rfl (by decide) ?_
      | refine T_goto (tgt := 7) (pc := 39) k_B_isOf_39 rfl ?_
      | refine T_retI (pc := 43) k_B_isOf_43 rfl (by first | rfl | decide | assumption) ?_)
    all_goals first
      | exact kt (by simp only [und]; simp; omega)
      | exact kf (by simp only [und]; simp; omega)
theorem c_B_touches {i o t s : Nat} (hb : isAg g i 0 6) (h1 : I i 1 = nI o) (h2 : I i 2 = nI t) (ho : o < 8) (ht : t < 8) (hs : s < 8) (kt : o = s ∨ t = s → K (some (.int (nI 1))) g I) (kf : ¬ (o = s ∨ t = s) → K (some (.int (nI 0))) g I) : Cl 1 M_B_touches [.ref i, .int (nI s)] g I K := by
  show Rl 1 M_B_touches 0 [some (.ref i), some (.int (nI s))] [] g I K
  repeat' (first
    | ((first | refine T_aload_n (pc1 := 1) (pc := 0) k_B_touches_0 rfl rfl ?_ | refine T_aload_nN (pc1 := 1) (pc := 0) k_B_touches_0 rfl rfl ?_) <;> try (refine T_getV (pc1 := 4) (pc := 1) k_B_touches_1 rfl f_B_15 rfl (by first | assumption | exact ga G (by decide) rfl) (by first | assumption | (simp (disch := omega) only [pI_eq, pI_row, pI_col, va_up_self, va_up_ne, ne_eq, not_false_eq_true] <;> rfl) | rfl) ?_ <;> try (refine T_iload_n (pc1 := 5) (pc := 4) k_B_touches_4 rfl rfl ?_ <;> try ((first | (with_reducible refine T_icmp_eqN (tgt := 16) (pc1 := 8) (pc := 5) k_B_touches_5 (by decide) (by decide) (by omega) (by omega) (fun hc => ?_) (fun hc => ?_) <;> first | (exfalso; omega) | skip) | refine T_icmp_eq_t (tgt := 16) (pc := 5) k_B_touches_5 rfl (by decide) ?_ | refine T_icmp_eq_f (tgt := 16) (pc1 := 8) (pc := 5) k_B_touches_5 rfl rfl (by decide) ?_ | refine T_icmp_eq (tgt := 16) (pc1 := 8) (pc := 5) k_B_touches_5 rfl rfl (fun hc => ?_) (fun hc => ?_))))))
    | ((first | refine T_aload_n (pc1 := 9) (pc := 8) k_B_touches_8 rfl rfl ?_ | refine T_aload_nN (pc1 := 9) (pc := 8) k_B_touches_8 rfl rfl ?_) <;> try (refine T_getV (pc1 := 12) (pc := 9) k_B_touches_9 rfl f_B_18 rfl (by first | assumption | exact ga G (by decide) rfl) (by first | assumption | (simp (disch := omega) only [pI_eq, pI_row, pI_col, va_up_self, va_up_ne, ne_eq, not_false_eq_true] <;> rfl) | rfl) ?_ <;> try (refine T_iload_n (pc1 := 13) (pc := 12) k_B_touches_12 rfl rfl ?_ <;> try ((first | (with_reducible refine T_icmp_neN (tgt := 20) (pc1 := 16) (pc := 13) k_B_touches_13 (by decide) (by decide) (by omega) (by omega) (fun hc => ?_) (fun hc => ?_) <;> first | (exfalso; omega) | skip) | refine T_icmp_ne_t (tgt := 20) (pc := 13) k_B_touches_13 rfl (by decide) ?_ | refine T_icmp_ne_f (tgt := 20) (pc1 := 16) (pc := 13) k_B_touches_13 rfl rfl (by decide) ?_ | refine T_icmp_ne (tgt := 20) (pc1 := 16) (pc := 13) k_B_touches_13 rfl rfl (fun hc => ?_) (fun hc => ?_))))))
    | (refine T_iconst (v := (nI 1)) (pc1 := 17) (pc := 16) k_B_touches_16 rfl (by decide) ?_ <;> try (refine T_goto (tgt := 21) (pc := 17) k_B_touches_17 rfl ?_))
    | (refine T_iconst (v := (nI 0)) (pc1 := 21) (pc := 20) k_B_touches_20 rfl (by decide) ?_)
    | (refine T_retI (pc := 21) k_B_touches_21 rfl (by first | rfl | decide | assumption) ?_)
    | refine T_getV (pc1 := 4) (pc := 1) k_B_touches_1 rfl f_B_15 rfl (by first | assumption | exact ga G (by decide) rfl) (by first | assumption | (simp (disch := omega) only [pI_eq, pI_row, pI_col, va_up_self, va_up_ne, ne_eq, not_false_eq_true] <;> rfl) | rfl) ?_
    | refine T_iload_n (pc1 := 5) (pc := 4) k_B_touches_4 rfl rfl ?_
    | (with_reducible refine T_icmp_eqN (tgt := 16) (pc1 := 8) (pc := 5) k_B_touches_5 (by decide) (by decide) (by omega) (by omega) (fun hc => ?_) (fun hc => ?_) <;> first | (exfalso; omega) | skip)
    | refine T_icmp_eq_t (tgt := 16) (pc := 5) k_B_touches_5 rfl (by decide) ?_
    | refine T_icmp_eq_f (tgt := 16) (pc1 := 8) (pc := 5) k_B_touches_5 rfl rfl (by decide) ?_
    | refine T_icmp_eq (tgt := 16) (pc1 := 8) (pc := 5) k_B_touches_5 rfl rfl (fun hc => ?_) (fun hc => ?_)
    | refine T_getV (pc1 := 12) (pc := 9) k_B_touches_9 rfl f_B_18 rfl (by first | assumption | exact ga G (by decide) rfl) (by first | assumption | (simp (disch := omega) only [pI_eq, pI_row, pI_col, va_up_self, va_up_ne, ne_eq, not_false_eq_true] <;> rfl) | rfl) ?_
    | refine T_iload_n (pc1 := 13) (pc := 12) k_B_touches_12 rfl rfl ?_
    | (with_reducible refine T_icmp_neN (tgt := 20) (pc1 := 16) (pc := 13) k_B_touches_13 (by decide) (by decide) (by omega) (by omega) (fun hc => ?_) (fun hc => ?_) <;> first | (exfalso; omega) | skip)
    | refine T_icmp_ne_t (tgt := 20) (pc := 13) k_B_touches_13 rfl (by decide) ?_
    | refine T_icmp_ne_f (tgt := 20) (pc1 := 16) (pc := 13) k_B_touches_13 rfl rfl (by decide) ?_
    | refine T_icmp_ne (tgt := 20) (pc1 := 16) (pc := 13) k_B_touches_13 rfl rfl (fun hc => ?_) (fun hc => ?_)
    | refine T_goto (tgt := 21) (pc := 17) k_B_touches_17 rfl ?_)
  all_goals first | exact kt (by omega) | exact kf (by omega)
theorem c_B_endFrom {i o t s : Nat} (hb : isAg g i 0 6) (h1 : I i 1 = nI o) (h2 : I i 2 = nI t) (ho : o < 8) (ht : t < 8) (hs : s < 8) (kk : K (some (.int (nI (if o = s then t else o)))) g I) : Cl 1 M_B_endFrom [.ref i, .int (nI s)] g I K := by
  show Rl 1 M_B_endFrom 0 [some (.ref i), some (.int (nI s))] [] g I K
  repeat' (first
    | ((first | refine T_aload_n (pc1 := 1) (pc := 0) k_B_endFrom_0 rfl rfl ?_ | refine T_aload_nN (pc1 := 1) (pc := 0) k_B_endFrom_0 rfl rfl ?_) <;> try (refine T_getV (pc1 := 4) (pc := 1) k_B_endFrom_1 rfl f_B_15 rfl (by first | assumption | exact ga G (by decide) rfl) (by first | assumption | (simp (disch := omega) only [pI_eq, pI_row, pI_col, va_up_self, va_up_ne, ne_eq, not_false_eq_true] <;> rfl) | rfl) ?_ <;> try (refine T_iload_n (pc1 := 5) (pc := 4) k_B_endFrom_4 rfl rfl ?_ <;> try ((first | (with_reducible refine T_icmp_neN (tgt := 15) (pc1 := 8) (pc := 5) k_B_endFrom_5 (by decide) (by decide) (by omega) (by omega) (fun hc => ?_) (fun hc => ?_) <;> first | (exfalso; omega) | skip) | refine T_icmp_ne_t (tgt := 15) (pc := 5) k_B_endFrom_5 rfl (by decide) ?_ | refine T_icmp_ne_f (tgt := 15) (pc1 := 8) (pc := 5) k_B_endFrom_5 rfl rfl (by decide) ?_ | refine T_icmp_ne (tgt := 15) (pc1 := 8) (pc := 5) k_B_endFrom_5 rfl rfl (fun hc => ?_) (fun hc => ?_))))))
    | ((first | refine T_aload_n (pc1 := 9) (pc := 8) k_B_endFrom_8 rfl rfl ?_ | refine T_aload_nN (pc1 := 9) (pc := 8) k_B_endFrom_8 rfl rfl ?_) <;> try (refine T_getV (pc1 := 12) (pc := 9) k_B_endFrom_9 rfl f_B_18 rfl (by first | assumption | exact ga G (by decide) rfl) (by first | assumption | (simp (disch := omega) only [pI_eq, pI_row, pI_col, va_up_self, va_up_ne, ne_eq, not_false_eq_true] <;> rfl) | rfl) ?_ <;> try (refine T_goto (tgt := 19) (pc := 12) k_B_endFrom_12 rfl ?_)))
    | ((first | refine T_aload_n (pc1 := 16) (pc := 15) k_B_endFrom_15 rfl rfl ?_ | refine T_aload_nN (pc1 := 16) (pc := 15) k_B_endFrom_15 rfl rfl ?_) <;> try (refine T_getV (pc1 := 19) (pc := 16) k_B_endFrom_16 rfl f_B_15 rfl (by first | assumption | exact ga G (by decide) rfl) (by first | assumption | (simp (disch := omega) only [pI_eq, pI_row, pI_col, va_up_self, va_up_ne, ne_eq, not_false_eq_true] <;> rfl) | rfl) ?_))
    | (refine T_retI (pc := 19) k_B_endFrom_19 rfl (by first | rfl | decide | assumption) ?_)
    | refine T_getV (pc1 := 4) (pc := 1) k_B_endFrom_1 rfl f_B_15 rfl (by first | assumption | exact ga G (by decide) rfl) (by first | assumption | (simp (disch := omega) only [pI_eq, pI_row, pI_col, va_up_self, va_up_ne, ne_eq, not_false_eq_true] <;> rfl) | rfl) ?_
    | refine T_iload_n (pc1 := 5) (pc := 4) k_B_endFrom_4 rfl rfl ?_
    | (with_reducible refine T_icmp_neN (tgt := 15) (pc1 := 8) (pc := 5) k_B_endFrom_5 (by decide) (by decide) (by omega) (by omega) (fun hc => ?_) (fun hc => ?_) <;> first | (exfalso; omega) | skip)
    | refine T_icmp_ne_t (tgt := 15) (pc := 5) k_B_endFrom_5 rfl (by decide) ?_
    | refine T_icmp_ne_f (tgt := 15) (pc1 := 8) (pc := 5) k_B_endFrom_5 rfl rfl (by decide) ?_
    | refine T_icmp_ne (tgt := 15) (pc1 := 8) (pc := 5) k_B_endFrom_5 rfl rfl (fun hc => ?_) (fun hc => ?_)
    | refine T_getV (pc1 := 12) (pc := 9) k_B_endFrom_9 rfl f_B_18 rfl (by first | assumption | exact ga G (by decide) rfl) (by first | assumption | (simp (disch := omega) only [pI_eq, pI_row, pI_col, va_up_self, va_up_ne, ne_eq, not_false_eq_true] <;> rfl) | rfl) ?_
    | refine T_goto (tgt := 19) (pc := 12) k_B_endFrom_12 rfl ?_
    | refine T_getV (pc1 := 19) (pc := 16) k_B_endFrom_16 rfl f_B_15 rfl (by first | assumption | exact ga G (by decide) rfl) (by first | assumption | (simp (disch := omega) only [pI_eq, pI_row, pI_col, va_up_self, va_up_ne, ne_eq, not_false_eq_true] <;> rfl) | rfl) ?_)
  · rw [if_neg (by omega)] at kk; exact kk
  · rw [if_pos (by omega)] at kk; exact kk
def brV (k l : Nat) (w : Int32) : Bool := (k == 4 && w == nI 1) || ((k == 1 || k == 3) && decide (90 < l))
theorem c_B_isBarred {i k l : Nat} {w : Int32} (hb : isAg g i 0 6) (h0 : I i 0 = nI k) (hk : k < 6) (h3 : I i 3 = nI l) (hl : l ≤ 99) (hw : w = nI 0 ∨ w = nI 1) (kt : brV k l w = true → K (some (.int (nI 1))) g I) (kf : brV k l w = false → K (some (.int (nI 0))) g I) : Cl 2 M_B_isBarred [.ref i, .int w] g I K := by
  show Rl 2 M_B_isBarred 0 [some (.ref i), some (.int w)] [] g I K
  have h90 : decide (90 < l) = true ∨ decide (90 < l) = false := by cases decide (90 < l) <;> simp
  unfold brV at kt kf
  obtain rfl | rfl | rfl | rfl | rfl | rfl : k = 0 ∨ k = 1 ∨ k = 2 ∨ k = 3 ∨ k = 4 ∨ k = 5 := by omega
  all_goals
    rcases hw with rfl | rfl
    all_goals
      rcases h90 with h90 | h90
      all_goals
        rw [h90] at kt kf
        first | have h90 := of_decide_eq_true h90 | have h90 := of_decide_eq_false h90
        repeat' (first
          | ((first | refine T_aload_n (pc1 := 1) (pc := 0) k_B_isBarred_0 rfl rfl ?_ | refine T_aload_nN (pc1 := 1) (pc := 0) k_B_isBarred_0 rfl rfl ?_) <;> try (refine T_iconst (v := (nI 1)) (pc1 := 2) (pc := 1) k_B_isBarred_1 rfl (by decide) ?_ <;> try ((refine T_cV (As := [_]) (d1 := 1) (pc1 := 5) (pc := 2) k_B_isBarred_2 rfl (by decide) (Nat.le_of_ble_eq_true rfl) rfl o_B_isOf l_B_35 rfl (by first | assumption | exact ga G (by decide) rfl) rfl (c_B_isOf (by assumption) h0 hk (by decide) (fun hu => ?_) (fun hu => ?_)) <;> try dsimp only [psh]) <;> try ((first | (with_reducible refine T_if_eqN (tgt := 23) (pc1 := 8) (pc := 5) k_B_isBarred_5 (by decide) (by decide) (by omega) (fun hc => ?_) (fun hc => ?_) <;> first | (exfalso; omega) | skip) | refine T_if_eq_t (tgt := 23) (pc := 5) k_B_isBarred_5 rfl (by decide) ?_ | refine T_if_eq_f (tgt := 23) (pc1 := 8) (pc := 5) k_B_isBarred_5 rfl rfl (by decide) ?_ | refine T_if_eq (tgt := 23) (pc1 := 8) (pc := 5) k_B_isBarred_5 rfl rfl (fun hc => ?_) (fun hc => ?_))))))
          | ((first | refine T_aload_n (pc1 := 9) (pc := 8) k_B_isBarred_8 rfl rfl ?_ | refine T_aload_nN (pc1 := 9) (pc := 8) k_B_isBarred_8 rfl rfl ?_) <;> try (refine T_getV (pc1 := 12) (pc := 9) k_B_isBarred_9 rfl f_B_21 rfl (by first | assumption | exact ga G (by decide) rfl) (by first | assumption | (simp (disch := omega) only [pI_eq, pI_row, pI_col, va_up_self, va_up_ne, ne_eq, not_false_eq_true] <;> rfl) | rfl) ?_ <;> try (refine T_bipush (v := (nI 90)) (pc1 := 14) (pc := 12) k_B_isBarred_12 rfl (by decide) ?_ <;> try ((first | (with_reducible refine T_icmp_leN (tgt := 21) (pc1 := 17) (pc := 14) k_B_isBarred_14 (by decide) (by decide) (by omega) (by omega) (fun hc => ?_) (fun hc => ?_) <;> first | (exfalso; omega) | skip) | refine T_icmp_le_t (tgt := 21) (pc := 14) k_B_isBarred_14 rfl (by decide) ?_ | refine T_icmp_le_f (tgt := 21) (pc1 := 17) (pc := 14) k_B_isBarred_14 rfl rfl (by decide) ?_ | refine T_icmp_le (tgt := 21) (pc1 := 17) (pc := 14) k_B_isBarred_14 rfl rfl (fun hc => ?_) (fun hc => ?_))))))
          | (refine T_iconst (v := (nI 1)) (pc1 := 18) (pc := 17) k_B_isBarred_17 rfl (by decide) ?_ <;> try (refine T_goto (tgt := 22) (pc := 18) k_B_isBarred_18 rfl ?_))
          | (refine T_iconst (v := (nI 0)) (pc1 := 22) (pc := 21) k_B_isBarred_21 rfl (by decide) ?_)
          | (refine T_retI (pc := 22) k_B_isBarred_22 rfl (by first | rfl | decide | assumption) ?_)
          | ((first | refine T_aload_n (pc1 := 24) (pc := 23) k_B_isBarred_23 rfl rfl ?_ | refine T_aload_nN (pc1 := 24) (pc := 23) k_B_isBarred_23 rfl rfl ?_) <;> try (refine T_getV (pc1 := 27) (pc := 24) k_B_isBarred_24 rfl f_B_9 rfl (by first | assumption | exact ga G (by decide) rfl) (by first | assumption | (simp (disch := omega) only [pI_eq, pI_row, pI_col, va_up_self, va_up_ne, ne_eq, not_false_eq_true] <;> rfl) | rfl) ?_ <;> try (refine T_iconst (v := (nI 4)) (pc1 := 28) (pc := 27) k_B_isBarred_27 rfl (by decide) ?_ <;> try ((first | (with_reducible refine T_icmp_neN (tgt := 40) (pc1 := 31) (pc := 28) k_B_isBarred_28 (by decide) (by decide) (by omega) (by omega) (fun hc => ?_) (fun hc => ?_) <;> first | (exfalso; omega) | skip) | refine T_icmp_ne_t (tgt := 40) (pc := 28) k_B_isBarred_28 rfl (by decide) ?_ | refine T_icmp_ne_f (tgt := 40) (pc1 := 31) (pc := 28) k_B_isBarred_28 rfl rfl (by decide) ?_ | refine T_icmp_ne (tgt := 40) (pc1 := 31) (pc := 28) k_B_isBarred_28 rfl rfl (fun hc => ?_) (fun hc => ?_))))))
          | (refine T_iload_n (pc1 := 32) (pc := 31) k_B_isBarred_31 rfl rfl ?_ <;> try (refine T_iconst (v := (nI 1)) (pc1 := 33) (pc := 32) k_B_isBarred_32 rfl (by decide) ?_ <;> try ((first | (with_reducible refine T_icmp_neN (tgt := 40) (pc1 := 36) (pc := 33) k_B_isBarred_33 (by decide) (by decide) (by omega) (by omega) (fun hc => ?_) (fun hc => ?_) <;> first | (exfalso; omega) | skip) | refine T_icmp_ne_t (tgt := 40) (pc := 33) k_B_isBarred_33 rfl (by decide) ?_ | refine T_icmp_ne_f (tgt := 40) (pc1 := 36) (pc := 33) k_B_isBarred_33 rfl rfl (by decide) ?_ | refine T_icmp_ne (tgt := 40) (pc1 := 36) (pc := 33) k_B_isBarred_33 rfl rfl (fun hc => ?_) (fun hc => ?_)))))
          | (refine T_iconst (v := (nI 1)) (pc1 := 37) (pc := 36) k_B_isBarred_36 rfl (by decide) ?_ <;> try (refine T_goto (tgt := 41) (pc := 37) k_B_isBarred_37 rfl ?_))
          | (refine T_iconst (v := (nI 0)) (pc1 := 41) (pc := 40) k_B_isBarred_40 rfl (by decide) ?_)
          | (refine T_retI (pc := 41) k_B_isBarred_41 rfl (by first | rfl | decide | assumption) ?_)
          | refine T_iconst (v := (nI 1)) (pc1 := 2) (pc := 1) k_B_isBarred_1 rfl (by decide) ?_
          | (refine T_cV (As := [_]) (d1 := 1) (pc1 := 5) (pc := 2) k_B_isBarred_2 rfl (by decide) (Nat.le_of_ble_eq_true rfl) rfl o_B_isOf l_B_35 rfl (by first | assumption | exact ga G (by decide) rfl) rfl (c_B_isOf (by assumption) h0 hk (by decide) (fun hu => ?_) (fun hu => ?_)) <;> try dsimp only [psh])
          | (with_reducible refine T_if_eqN (tgt := 23) (pc1 := 8) (pc := 5) k_B_isBarred_5 (by decide) (by decide) (by omega) (fun hc => ?_) (fun hc => ?_) <;> first | (exfalso; omega) | skip)
          | refine T_if_eq_t (tgt := 23) (pc := 5) k_B_isBarred_5 rfl (by decide) ?_
          | refine T_if_eq_f (tgt := 23) (pc1 := 8) (pc := 5) k_B_isBarred_5 rfl rfl (by decide) ?_
          | refine T_if_eq (tgt := 23) (pc1 := 8) (pc := 5) k_B_isBarred_5 rfl rfl (fun hc => ?_) (fun hc => ?_)
          | refine T_getV (pc1 := 12) (pc := 9) k_B_isBarred_9 rfl f_B_21 rfl (by first | assumption | exact ga G (by decide) rfl) (by first | assumption | (simp (disch := omega) only [pI_eq, pI_row, pI_col, va_up_self, va_up_ne, ne_eq, not_false_eq_true] <;> rfl) | rfl) ?_
          | refine T_bipush (v := (nI 90)) (pc1 := 14) (pc := 12) k_B_isBarred_12 rfl (by decide) ?_
          | (with_reducible refine T_icmp_leN (tgt := 21) (pc1 := 17) (pc := 14) k_B_isBarred_14 (by decide) (by decide) (by omega) (by omega) (fun hc => ?_) (fun hc => ?_) <;> first | (exfalso; omega) | skip)
          | refine T_icmp_le_t (tgt := 21) (pc := 14) k_B_isBarred_14 rfl (by decide) ?_
          | refine T_icmp_le_f (tgt := 21) (pc1 := 17) (pc := 14) k_B_isBarred_14 rfl rfl (by decide) ?_
          | refine T_icmp_le (tgt := 21) (pc1 := 17) (pc := 14) k_B_isBarred_14 rfl rfl (fun hc => ?_) (fun hc => ?_)
          | refine T_goto (tgt := 22) (pc := 18) k_B_isBarred_18 rfl ?_
          | refine T_getV (pc1 := 27) (pc := 24) k_B_isBarred_24 rfl f_B_9 rfl (by first | assumption | exact ga G (by decide) rfl) (by first | assumption | (simp (disch := omega) only [pI_eq, pI_row, pI_col, va_up_self, va_up_ne, ne_eq, not_false_eq_true] <;> rfl) | rfl) ?_
          | refine T_iconst (v := (nI 4)) (pc1 := 28) (pc := 27) k_B_isBarred_27 rfl (by decide) ?_
          | (with_reducible refine T_icmp_neN (tgt := 40) (pc1 := 31) (pc := 28) k_B_isBarred_28 (by decide) (by decide) (by omega) (by omega) (fun hc => ?_) (fun hc => ?_) <;> first | (exfalso; omega) | skip)
          | refine T_icmp_ne_t (tgt := 40) (pc := 28) k_B_isBarred_28 rfl (by decide) ?_
          | refine T_icmp_ne_f (tgt := 40) (pc1 := 31) (pc := 28) k_B_isBarred_28 rfl rfl (by decide) ?_
          | refine T_icmp_ne (tgt := 40) (pc1 := 31) (pc := 28) k_B_isBarred_28 rfl rfl (fun hc => ?_) (fun hc => ?_)
          | refine T_iconst (v := (nI 1)) (pc1 := 33) (pc := 32) k_B_isBarred_32 rfl (by decide) ?_
          | (with_reducible refine T_icmp_neN (tgt := 40) (pc1 := 36) (pc := 33) k_B_isBarred_33 (by decide) (by decide) (by omega) (by omega) (fun hc => ?_) (fun hc => ?_) <;> first | (exfalso; omega) | skip)
          | refine T_icmp_ne_t (tgt := 40) (pc := 33) k_B_isBarred_33 rfl (by decide) ?_
          | refine T_icmp_ne_f (tgt := 40) (pc1 := 36) (pc := 33) k_B_isBarred_33 rfl rfl (by decide) ?_
          | refine T_icmp_ne (tgt := 40) (pc1 := 36) (pc := 33) k_B_isBarred_33 rfl rfl (fun hc => ?_) (fun hc => ?_)
          | refine T_goto (tgt := 41) (pc := 37) k_B_isBarred_37 rfl ?_)
        all_goals first | exact kt (by decide) | exact kf (by decide) | (exfalso; omega) | (exfalso; revert hu; decide)
theorem c_B_takesAsTrack {i : Nat} {p : Int32} (hb : isAg g i 0 6) (kk : K (some (.int (jmax (nI 1) (p - I i 4)))) g I) : Cl 1 M_B_takesAsTrack [.ref i, .int p] g I K := by
  show Rl 1 M_B_takesAsTrack 0 [some (.ref i), some (.int p)] [] g I K
  repeat' (first
    | (refine T_iconst (v := (nI 1)) (pc1 := 1) (pc := 0) k_B_takesAsTrack_0 rfl (by decide) ?_ <;> try (refine T_iload_n (pc1 := 2) (pc := 1) k_B_takesAsTrack_1 rfl rfl ?_ <;> try ((first | refine T_aload_n (pc1 := 3) (pc := 2) k_B_takesAsTrack_2 rfl rfl ?_ | refine T_aload_nN (pc1 := 3) (pc := 2) k_B_takesAsTrack_2 rfl rfl ?_) <;> try (refine T_getV (pc1 := 6) (pc := 3) k_B_takesAsTrack_3 rfl f_B_24 rfl (by first | assumption | exact ga G (by decide) rfl) (by first | assumption | (simp (disch := omega) only [pI_eq, pI_row, pI_col, va_up_self, va_up_ne, ne_eq, not_false_eq_true] <;> rfl) | rfl) ?_ <;> try ((first | with_reducible refine T_isubN (pc1 := 7) (pc := 6) k_B_takesAsTrack_6 (by decide) (by omega) ?_ | refine T_isub (pc1 := 7) (pc := 6) k_B_takesAsTrack_6 rfl ?_) <;> try ((first | refine T_mmaxV (pc1 := 10) (pc := 7) k_B_takesAsTrack_7 rfl l_B_43 (by decide) (Nat.le_of_ble_eq_true rfl) (by with_reducible rfl) (by with_reducible rfl) (by omega) (by omega) ?_ | refine T_mmax (pc1 := 10) (pc := 7) k_B_takesAsTrack_7 rfl l_B_43 (by decide) (Nat.le_of_ble_eq_true rfl) ?_) <;> try (refine T_retI (pc := 10) k_B_takesAsTrack_10 rfl (by first | rfl | decide | assumption) ?_)))))))
    | refine T_iload_n (pc1 := 2) (pc := 1) k_B_takesAsTrack_1 rfl rfl ?_
    | refine T_aload_n (pc1 := 3) (pc := 2) k_B_takesAsTrack_2 rfl rfl ?_
    | refine T_aload_nN (pc1 := 3) (pc := 2) k_B_takesAsTrack_2 rfl rfl ?_
    | refine T_getV (pc1 := 6) (pc := 3) k_B_takesAsTrack_3 rfl f_B_24 rfl (by first | assumption | exact ga G (by decide) rfl) (by first | assumption | (simp (disch := omega) only [pI_eq, pI_row, pI_col, va_up_self, va_up_ne, ne_eq, not_false_eq_true] <;> rfl) | rfl) ?_
    | with_reducible refine T_isubN (pc1 := 7) (pc := 6) k_B_takesAsTrack_6 (by decide) (by omega) ?_
    | refine T_isub (pc1 := 7) (pc := 6) k_B_takesAsTrack_6 rfl ?_
    | refine T_mmaxV (pc1 := 10) (pc := 7) k_B_takesAsTrack_7 rfl l_B_43 (by decide) (Nat.le_of_ble_eq_true rfl) (by with_reducible rfl) (by with_reducible rfl) (by omega) (by omega) ?_
    | refine T_mmax (pc1 := 10) (pc := 7) k_B_takesAsTrack_7 rfl l_B_43 (by decide) (Nat.le_of_ble_eq_true rfl) ?_
    | refine T_retI (pc := 10) k_B_takesAsTrack_10 rfl (by first | rfl | decide | assumption) ?_)
  exact kk
theorem c_B_takes {i k : Nat} {p w : Int32} (hb : isAg g i 0 6) (h0 : I i 0 = nI k) (hk : k < 6) (hw : w = nI 0 ∨ w = nI 1) (kk : K (some (.int (tkV k p (I i 4) (I i 3) w))) g I) : Cl 2 M_B_takes [.ref i, .int p, .int w] g I K := by
  show Rl 2 M_B_takes 0 [some (.ref i), some (.int p), some (.int w)] [] g I K
  obtain rfl | rfl | rfl | rfl | rfl | rfl : k = 0 ∨ k = 1 ∨ k = 2 ∨ k = 3 ∨ k = 4 ∨ k = 5 := by omega
  all_goals
    rcases hw with rfl | rfl
    all_goals
      repeat' (first
        | ((first | refine T_aload_n (pc1 := 1) (pc := 0) k_B_takes_0 rfl rfl ?_ | refine T_aload_nN (pc1 := 1) (pc := 0) k_B_takes_0 rfl rfl ?_) <;> try (refine T_getV (pc1 := 4) (pc := 1) k_B_takes_1 rfl f_B_9 rfl (by first | assumption | exact ga G (by decide) rfl) (by first | assumption | (simp (disch := omega) only [pI_eq, pI_row, pI_col, va_up_self, va_up_ne, ne_eq, not_false_eq_true] <;> rfl) | rfl) ?_ <;> try ((first | (with_reducible refine swN_B_takes_4 (by omega) (fun hc => ?_) (fun hc => ?_) (fun hc => ?_) (fun hc => ?_) (fun hc => ?_) (fun hc => ?_) <;> first | (exfalso; omega) | skip) | refine sw_B_takes_4 (fun hc => ?_) (fun hc => ?_) (fun hc => ?_) (fun hc => ?_) (fun hc => ?_) (fun hc => ?_)))))
        | ((first | refine T_aload_n (pc1 := 41) (pc := 40) k_B_takes_40 rfl rfl ?_ | refine T_aload_nN (pc1 := 41) (pc := 40) k_B_takes_40 rfl rfl ?_) <;> try (refine T_iload_n (pc1 := 42) (pc := 41) k_B_takes_41 rfl rfl ?_ <;> try ((refine T_cV (As := [_]) (d1 := 1) (pc1 := 45) (pc := 42) k_B_takes_42 rfl (by decide) (Nat.le_of_ble_eq_true rfl) rfl o_B_takesAsTrack l_B_39 rfl (by first | assumption | exact ga G (by decide) rfl) rfl (c_B_takesAsTrack (by assumption) ?_) <;> try dsimp only [psh]) <;> try (refine T_retI (pc := 45) k_B_takes_45 rfl (by first | rfl | decide | assumption) ?_))))
        | (refine T_iconst (v := (nI 1)) (pc1 := 47) (pc := 46) k_B_takes_46 rfl (by decide) ?_ <;> try ((first | refine T_aload_n (pc1 := 48) (pc := 47) k_B_takes_47 rfl rfl ?_ | refine T_aload_nN (pc1 := 48) (pc := 47) k_B_takes_47 rfl rfl ?_) <;> try (refine T_iload_n (pc1 := 49) (pc := 48) k_B_takes_48 rfl rfl ?_ <;> try ((refine T_cV (As := [_]) (d1 := 1) (pc1 := 52) (pc := 49) k_B_takes_49 rfl (by decide) (Nat.le_of_ble_eq_true rfl) rfl o_B_takesAsTrack l_B_39 rfl (by first | assumption | exact ga G (by decide) rfl) rfl (c_B_takesAsTrack (by assumption) ?_) <;> try dsimp only [psh]) <;> try (refine T_iconst (v := (nI 2)) (pc1 := 53) (pc := 52) k_B_takes_52 rfl (by decide) ?_ <;> try (refine T_idiv (pc1 := 54) (pc := 53) k_B_takes_53 rfl (by first | assumption | decide) ?_ <;> try ((first | refine T_mmaxV (pc1 := 57) (pc := 54) k_B_takes_54 rfl l_B_43 (by decide) (Nat.le_of_ble_eq_true rfl) (by with_reducible rfl) (by with_reducible rfl) (by omega) (by omega) ?_ | refine T_mmax (pc1 := 57) (pc := 54) k_B_takes_54 rfl l_B_43 (by decide) (Nat.le_of_ble_eq_true rfl) ?_) <;> try (refine T_retI (pc := 57) k_B_takes_57 rfl (by first | rfl | decide | assumption) ?_))))))))
        | (refine T_iload_n (pc1 := 59) (pc := 58) k_B_takes_58 rfl rfl ?_ <;> try (refine T_iconst (v := (nI 1)) (pc1 := 60) (pc := 59) k_B_takes_59 rfl (by decide) ?_ <;> try ((first | (with_reducible refine T_icmp_neN (tgt := 69) (pc1 := 63) (pc := 60) k_B_takes_60 (by decide) (by decide) (by omega) (by omega) (fun hc => ?_) (fun hc => ?_) <;> first | (exfalso; omega) | skip) | refine T_icmp_ne_t (tgt := 69) (pc := 60) k_B_takes_60 rfl (by decide) ?_ | refine T_icmp_ne_f (tgt := 69) (pc1 := 63) (pc := 60) k_B_takes_60 rfl rfl (by decide) ?_ | refine T_icmp_ne (tgt := 69) (pc1 := 63) (pc := 60) k_B_takes_60 rfl rfl (fun hc => ?_) (fun hc => ?_)))))
        | (refine T_iconst (v := (nI 2)) (pc1 := 64) (pc := 63) k_B_takes_63 rfl (by decide) ?_ <;> try (refine T_iload_n (pc1 := 65) (pc := 64) k_B_takes_64 rfl rfl ?_ <;> try ((first | with_reducible refine T_imulN (pc1 := 66) (pc := 65) k_B_takes_65 (by decide) ?_ | refine T_imul (pc1 := 66) (pc := 65) k_B_takes_65 rfl ?_) <;> try (refine T_goto (tgt := 70) (pc := 66) k_B_takes_66 rfl ?_))))
        | (refine T_iload_n (pc1 := 70) (pc := 69) k_B_takes_69 rfl rfl ?_)
        | (refine T_retI (pc := 70) k_B_takes_70 rfl (by first | rfl | decide | assumption) ?_)
        | ((first | refine T_aload_n (pc1 := 72) (pc := 71) k_B_takes_71 rfl rfl ?_ | refine T_aload_nN (pc1 := 72) (pc := 71) k_B_takes_71 rfl rfl ?_) <;> try (refine T_getV (pc1 := 75) (pc := 72) k_B_takes_72 rfl f_B_21 rfl (by first | assumption | exact ga G (by decide) rfl) (by first | assumption | (simp (disch := omega) only [pI_eq, pI_row, pI_col, va_up_self, va_up_ne, ne_eq, not_false_eq_true] <;> rfl) | rfl) ?_ <;> try (refine T_retI (pc := 75) k_B_takes_75 rfl (by first | rfl | decide | assumption) ?_)))
        | (refine T_iload_n (pc1 := 77) (pc := 76) k_B_takes_76 rfl rfl ?_ <;> try (refine T_retI (pc := 77) k_B_takes_77 rfl (by first | rfl | decide | assumption) ?_))
        | refine T_getV (pc1 := 4) (pc := 1) k_B_takes_1 rfl f_B_9 rfl (by first | assumption | exact ga G (by decide) rfl) (by first | assumption | (simp (disch := omega) only [pI_eq, pI_row, pI_col, va_up_self, va_up_ne, ne_eq, not_false_eq_true] <;> rfl) | rfl) ?_
        | (with_reducible refine swN_B_takes_4 (by omega) (fun hc => ?_) (fun hc => ?_) (fun hc => ?_) (fun hc => ?_) (fun hc => ?_) (fun hc => ?_) <;> first | (exfalso; omega) | skip)
        | refine sw_B_takes_4 (fun hc => ?_) (fun hc => ?_) (fun hc => ?_) (fun hc => ?_) (fun hc => ?_) (fun hc => ?_)
        | refine T_iload_n (pc1 := 42) (pc := 41) k_B_takes_41 rfl rfl ?_
        | (refine T_cV (As := [_]) (d1 := 1) (pc1 := 45) (pc := 42) k_B_takes_42 rfl (by decide) (Nat.le_of_ble_eq_true rfl) rfl o_B_takesAsTrack l_B_39 rfl (by first | assumption | exact ga G (by decide) rfl) rfl (c_B_takesAsTrack (by assumption) ?_) <;> try dsimp only [psh])
        | refine T_retI (pc := 45) k_B_takes_45 rfl (by first | rfl | decide | assumption) ?_
        | refine T_aload_n (pc1 := 48) (pc := 47) k_B_takes_47 rfl rfl ?_
        | refine T_aload_nN (pc1 := 48) (pc := 47) k_B_takes_47 rfl rfl ?_
        | refine T_iload_n (pc1 := 49) (pc := 48) k_B_takes_48 rfl rfl ?_
        | (refine T_cV (As := [_]) (d1 := 1) (pc1 := 52) (pc := 49) k_B_takes_49 rfl (by decide) (Nat.le_of_ble_eq_true rfl) rfl o_B_takesAsTrack l_B_39 rfl (by first | assumption | exact ga G (by decide) rfl) rfl (c_B_takesAsTrack (by assumption) ?_) <;> try dsimp only [psh])
        | refine T_iconst (v := (nI 2)) (pc1 := 53) (pc := 52) k_B_takes_52 rfl (by decide) ?_
        | refine T_idiv (pc1 := 54) (pc := 53) k_B_takes_53 rfl (by first | assumption | decide) ?_
        | refine T_mmaxV (pc1 := 57) (pc := 54) k_B_takes_54 rfl l_B_43 (by decide) (Nat.le_of_ble_eq_true rfl) (by with_reducible rfl) (by with_reducible rfl) (by omega) (by omega) ?_
        | refine T_mmax (pc1 := 57) (pc := 54) k_B_takes_54 rfl l_B_43 (by decide) (Nat.le_of_ble_eq_true rfl) ?_
        | refine T_retI (pc := 57) k_B_takes_57 rfl (by first | rfl | decide | assumption) ?_
        | refine T_iconst (v := (nI 1)) (pc1 := 60) (pc := 59) k_B_takes_59 rfl (by decide) ?_
        | (with_reducible refine T_icmp_neN (tgt := 69) (pc1 := 63) (pc := 60) k_B_takes_60 (by decide) (by decide) (by omega) (by omega) (fun hc => ?_) (fun hc => ?_) <;> first | (exfalso; omega) | skip)
        | refine T_icmp_ne_t (tgt := 69) (pc := 60) k_B_takes_60 rfl (by decide) ?_
        | refine T_icmp_ne_f (tgt := 69) (pc1 := 63) (pc := 60) k_B_takes_60 rfl rfl (by decide) ?_
        | refine T_icmp_ne (tgt := 69) (pc1 := 63) (pc := 60) k_B_takes_60 rfl rfl (fun hc => ?_) (fun hc => ?_)
        | refine T_iload_n (pc1 := 65) (pc := 64) k_B_takes_64 rfl rfl ?_
        | with_reducible refine T_imulN (pc1 := 66) (pc := 65) k_B_takes_65 (by decide) ?_
        | refine T_imul (pc1 := 66) (pc := 65) k_B_takes_65 rfl ?_
        | refine T_goto (tgt := 70) (pc := 66) k_B_takes_66 rfl ?_
        | refine T_getV (pc1 := 75) (pc := 72) k_B_takes_72 rfl f_B_21 rfl (by first | assumption | exact ga G (by decide) rfl) (by first | assumption | (simp (disch := omega) only [pI_eq, pI_row, pI_col, va_up_self, va_up_ne, ne_eq, not_false_eq_true] <;> rfl) | rfl) ?_
        | refine T_retI (pc := 75) k_B_takes_75 rfl (by first | rfl | decide | assumption) ?_
        | refine T_retI (pc := 77) k_B_takes_77 rfl (by first | rfl | decide | assumption) ?_)
      exact kk
theorem c_B_worthAsTrack {i : Nat} (hb : isAg g i 0 6) (kk : K (some (.int (I i 3 + nI 4))) g I) : Cl 1 M_B_worthAsTrack [.ref i] g I K := by
  show Rl 1 M_B_worthAsTrack 0 [some (.ref i)] [] g I K
  repeat' (first
    | ((first | refine T_aload_n (pc1 := 1) (pc := 0) k_B_worthAsTrack_0 rfl rfl ?_ | refine T_aload_nN (pc1 := 1) (pc := 0) k_B_worthAsTrack_0 rfl rfl ?_) <;> try (refine T_getV (pc1 := 4) (pc := 1) k_B_worthAsTrack_1 rfl f_B_21 rfl (by first | assumption | exact ga G (by decide) rfl) (by first | assumption | (simp (disch := omega) only [pI_eq, pI_row, pI_col, va_up_self, va_up_ne, ne_eq, not_false_eq_true] <;> rfl) | rfl) ?_ <;> try (refine T_iconst (v := (nI 4)) (pc1 := 5) (pc := 4) k_B_worthAsTrack_4 rfl (by decide) ?_ <;> try ((first | with_reducible refine T_iaddN (pc1 := 6) (pc := 5) k_B_worthAsTrack_5 (by decide) ?_ | refine T_iadd (pc1 := 6) (pc := 5) k_B_worthAsTrack_5 rfl ?_) <;> try (refine T_retI (pc := 6) k_B_worthAsTrack_6 rfl (by first | rfl | decide | assumption) ?_)))))
    | refine T_getV (pc1 := 4) (pc := 1) k_B_worthAsTrack_1 rfl f_B_21 rfl (by first | assumption | exact ga G (by decide) rfl) (by first | assumption | (simp (disch := omega) only [pI_eq, pI_row, pI_col, va_up_self, va_up_ne, ne_eq, not_false_eq_true] <;> rfl) | rfl) ?_
    | refine T_iconst (v := (nI 4)) (pc1 := 5) (pc := 4) k_B_worthAsTrack_4 rfl (by decide) ?_
    | with_reducible refine T_iaddN (pc1 := 6) (pc := 5) k_B_worthAsTrack_5 (by decide) ?_
    | refine T_iadd (pc1 := 6) (pc := 5) k_B_worthAsTrack_5 rfl ?_
    | refine T_retI (pc := 6) k_B_worthAsTrack_6 rfl (by first | rfl | decide | assumption) ?_)
  exact kk
theorem c_B_worthAsWild {i : Nat} (hb : isAg g i 0 6) (kk : K (some (.int (nI 99 - I i 3))) g I) : Cl 1 M_B_worthAsWild [.ref i] g I K := by
  show Rl 1 M_B_worthAsWild 0 [some (.ref i)] [] g I K
  repeat' (first
    | (refine T_bipush (v := (nI 99)) (pc1 := 2) (pc := 0) k_B_worthAsWild_0 rfl (by decide) ?_ <;> try ((first | refine T_aload_n (pc1 := 3) (pc := 2) k_B_worthAsWild_2 rfl rfl ?_ | refine T_aload_nN (pc1 := 3) (pc := 2) k_B_worthAsWild_2 rfl rfl ?_) <;> try (refine T_getV (pc1 := 6) (pc := 3) k_B_worthAsWild_3 rfl f_B_21 rfl (by first | assumption | exact ga G (by decide) rfl) (by first | assumption | (simp (disch := omega) only [pI_eq, pI_row, pI_col, va_up_self, va_up_ne, ne_eq, not_false_eq_true] <;> rfl) | rfl) ?_ <;> try ((first | with_reducible refine T_isubN (pc1 := 7) (pc := 6) k_B_worthAsWild_6 (by decide) (by omega) ?_ | refine T_isub (pc1 := 7) (pc := 6) k_B_worthAsWild_6 rfl ?_) <;> try (refine T_retI (pc := 7) k_B_worthAsWild_7 rfl (by first | rfl | decide | assumption) ?_)))))
    | refine T_aload_n (pc1 := 3) (pc := 2) k_B_worthAsWild_2 rfl rfl ?_
    | refine T_aload_nN (pc1 := 3) (pc := 2) k_B_worthAsWild_2 rfl rfl ?_
    | refine T_getV (pc1 := 6) (pc := 3) k_B_worthAsWild_3 rfl f_B_21 rfl (by first | assumption | exact ga G (by decide) rfl) (by first | assumption | (simp (disch := omega) only [pI_eq, pI_row, pI_col, va_up_self, va_up_ne, ne_eq, not_false_eq_true] <;> rfl) | rfl) ?_
    | with_reducible refine T_isubN (pc1 := 7) (pc := 6) k_B_worthAsWild_6 (by decide) (by omega) ?_
    | refine T_isub (pc1 := 7) (pc := 6) k_B_worthAsWild_6 rfl ?_
    | refine T_retI (pc := 7) k_B_worthAsWild_7 rfl (by first | rfl | decide | assumption) ?_)
  exact kk
theorem wth_4 (x : Int32) : nI 99 - x - nI 6 = nI 93 - x := by
  rw [Int32.sub_sub, Int32.add_comm, ← Int32.sub_sub]; rfl
theorem c_B_worth {i k : Nat} (hb : isAg g i 0 6) (h0 : I i 0 = nI k) (hk : k < 6) (kk : K (some (.int (wthV k (I i 3)))) g I) : Cl 2 M_B_worth [.ref i] g I K := by
  show Rl 2 M_B_worth 0 [some (.ref i)] [] g I K
  obtain rfl | rfl | rfl | rfl | rfl | rfl : k = 0 ∨ k = 1 ∨ k = 2 ∨ k = 3 ∨ k = 4 ∨ k = 5 := by omega
  all_goals
    repeat' (first
      | ((first | refine T_aload_n (pc1 := 1) (pc := 0) k_B_worth_0 rfl rfl ?_ | refine T_aload_nN (pc1 := 1) (pc := 0) k_B_worth_0 rfl rfl ?_) <;> try (refine T_getV (pc1 := 4) (pc := 1) k_B_worth_1 rfl f_B_9 rfl (by first | assumption | exact ga G (by decide) rfl) (by first | assumption | (simp (disch := omega) only [pI_eq, pI_row, pI_col, va_up_self, va_up_ne, ne_eq, not_false_eq_true] <;> rfl) | rfl) ?_ <;> try ((first | (with_reducible refine swN_B_worth_4 (by omega) (fun hc => ?_) (fun hc => ?_) (fun hc => ?_) (fun hc => ?_) (fun hc => ?_) (fun hc => ?_) <;> first | (exfalso; omega) | skip) | refine sw_B_worth_4 (fun hc => ?_) (fun hc => ?_) (fun hc => ?_) (fun hc => ?_) (fun hc => ?_) (fun hc => ?_)))))
      | ((first | refine T_aload_n (pc1 := 41) (pc := 40) k_B_worth_40 rfl rfl ?_ | refine T_aload_nN (pc1 := 41) (pc := 40) k_B_worth_40 rfl rfl ?_) <;> try ((refine T_cV (As := []) (d1 := 1) (pc1 := 44) (pc := 41) k_B_worth_41 rfl (by decide) (Nat.le_of_ble_eq_true rfl) rfl o_B_worthAsTrack l_B_49 rfl (by first | assumption | exact ga G (by decide) rfl) rfl (c_B_worthAsTrack (by assumption) ?_) <;> try dsimp only [psh]) <;> try (refine T_retI (pc := 44) k_B_worth_44 rfl (by first | rfl | decide | assumption) ?_)))
      | (refine T_iconst (v := (nI 2)) (pc1 := 46) (pc := 45) k_B_worth_45 rfl (by decide) ?_ <;> try ((first | refine T_aload_n (pc1 := 47) (pc := 46) k_B_worth_46 rfl rfl ?_ | refine T_aload_nN (pc1 := 47) (pc := 46) k_B_worth_46 rfl rfl ?_) <;> try ((refine T_cV (As := []) (d1 := 1) (pc1 := 50) (pc := 47) k_B_worth_47 rfl (by decide) (Nat.le_of_ble_eq_true rfl) rfl o_B_worthAsTrack l_B_49 rfl (by first | assumption | exact ga G (by decide) rfl) rfl (c_B_worthAsTrack (by assumption) ?_) <;> try dsimp only [psh]) <;> try ((first | with_reducible refine T_imulN (pc1 := 51) (pc := 50) k_B_worth_50 (by decide) ?_ | refine T_imul (pc1 := 51) (pc := 50) k_B_worth_50 rfl ?_) <;> try (refine T_retI (pc := 51) k_B_worth_51 rfl (by first | rfl | decide | assumption) ?_)))))
      | ((first | refine T_aload_n (pc1 := 53) (pc := 52) k_B_worth_52 rfl rfl ?_ | refine T_aload_nN (pc1 := 53) (pc := 52) k_B_worth_52 rfl rfl ?_) <;> try ((refine T_cV (As := []) (d1 := 1) (pc1 := 56) (pc := 53) k_B_worth_53 rfl (by decide) (Nat.le_of_ble_eq_true rfl) rfl o_B_worthAsWild l_B_53 rfl (by first | assumption | exact ga G (by decide) rfl) rfl (c_B_worthAsWild (by assumption) ?_) <;> try dsimp only [psh]) <;> try (refine T_retI (pc := 56) k_B_worth_56 rfl (by first | rfl | decide | assumption) ?_)))
      | ((first | refine T_aload_n (pc1 := 58) (pc := 57) k_B_worth_57 rfl rfl ?_ | refine T_aload_nN (pc1 := 58) (pc := 57) k_B_worth_57 rfl rfl ?_) <;> try ((refine T_cV (As := []) (d1 := 1) (pc1 := 61) (pc := 58) k_B_worth_58 rfl (by decide) (Nat.le_of_ble_eq_true rfl) rfl o_B_worthAsWild l_B_53 rfl (by first | assumption | exact ga G (by decide) rfl) rfl (c_B_worthAsWild (by assumption) ?_) <;> try dsimp only [psh]) <;> try (refine T_bipush (v := (nI 6)) (pc1 := 63) (pc := 61) k_B_worth_61 rfl (by decide) ?_ <;> try ((first | with_reducible refine T_isubN (pc1 := 64) (pc := 63) k_B_worth_63 (by decide) (by omega) ?_ | refine T_isub (pc1 := 64) (pc := 63) k_B_worth_63 rfl ?_) <;> try (refine T_retI (pc := 64) k_B_worth_64 rfl (by first | rfl | decide | assumption) ?_)))))
      | (refine T_bipush (v := (nI 60)) (pc1 := 67) (pc := 65) k_B_worth_65 rfl (by decide) ?_ <;> try (refine T_retI (pc := 67) k_B_worth_67 rfl (by first | rfl | decide | assumption) ?_))
      | ((first | refine T_aload_n (pc1 := 69) (pc := 68) k_B_worth_68 rfl rfl ?_ | refine T_aload_nN (pc1 := 69) (pc := 68) k_B_worth_68 rfl rfl ?_) <;> try (refine T_getV (pc1 := 72) (pc := 69) k_B_worth_69 rfl f_B_21 rfl (by first | assumption | exact ga G (by decide) rfl) (by first | assumption | (simp (disch := omega) only [pI_eq, pI_row, pI_col, va_up_self, va_up_ne, ne_eq, not_false_eq_true] <;> rfl) | rfl) ?_ <;> try (refine T_retI (pc := 72) k_B_worth_72 rfl (by first | rfl | decide | assumption) ?_)))
      | refine T_getV (pc1 := 4) (pc := 1) k_B_worth_1 rfl f_B_9 rfl (by first | assumption | exact ga G (by decide) rfl) (by first | assumption | (simp (disch := omega) only [pI_eq, pI_row, pI_col, va_up_self, va_up_ne, ne_eq, not_false_eq_true] <;> rfl) | rfl) ?_
      | (with_reducible refine swN_B_worth_4 (by omega) (fun hc => ?_) (fun hc => ?_) (fun hc => ?_) (fun hc => ?_) (fun hc => ?_) (fun hc => ?_) <;> first | (exfalso; omega) | skip)
      | refine sw_B_worth_4 (fun hc => ?_) (fun hc => ?_) (fun hc => ?_) (fun hc => ?_) (fun hc => ?_) (fun hc => ?_)
      | (refine T_cV (As := []) (d1 := 1) (pc1 := 44) (pc := 41) k_B_worth_41 rfl (by decide) (Nat.le_of_ble_eq_true rfl) rfl o_B_worthAsTrack l_B_49 rfl (by first | assumption | exact ga G (by decide) rfl) rfl (c_B_worthAsTrack (by assumption) ?_) <;> try dsimp only [psh])
      | refine T_retI (pc := 44) k_B_worth_44 rfl (by first | rfl | decide | assumption) ?_
      | refine T_aload_n (pc1 := 47) (pc := 46) k_B_worth_46 rfl rfl ?_
      | refine T_aload_nN (pc1 := 47) (pc := 46) k_B_worth_46 rfl rfl ?_
      | (refine T_cV (As := []) (d1 := 1) (pc1 := 50) (pc := 47) k_B_worth_47 rfl (by decide) (Nat.le_of_ble_eq_true rfl) rfl o_B_worthAsTrack l_B_49 rfl (by first | assumption | exact ga G (by decide) rfl) rfl (c_B_worthAsTrack (by assumption) ?_) <;> try dsimp only [psh])
      | with_reducible refine T_imulN (pc1 := 51) (pc := 50) k_B_worth_50 (by decide) ?_
      | refine T_imul (pc1 := 51) (pc := 50) k_B_worth_50 rfl ?_
      | refine T_retI (pc := 51) k_B_worth_51 rfl (by first | rfl | decide | assumption) ?_
      | (refine T_cV (As := []) (d1 := 1) (pc1 := 56) (pc := 53) k_B_worth_53 rfl (by decide) (Nat.le_of_ble_eq_true rfl) rfl o_B_worthAsWild l_B_53 rfl (by first | assumption | exact ga G (by decide) rfl) rfl (c_B_worthAsWild (by assumption) ?_) <;> try dsimp only [psh])
      | refine T_retI (pc := 56) k_B_worth_56 rfl (by first | rfl | decide | assumption) ?_
      | (refine T_cV (As := []) (d1 := 1) (pc1 := 61) (pc := 58) k_B_worth_58 rfl (by decide) (Nat.le_of_ble_eq_true rfl) rfl o_B_worthAsWild l_B_53 rfl (by first | assumption | exact ga G (by decide) rfl) rfl (c_B_worthAsWild (by assumption) ?_) <;> try dsimp only [psh])
      | refine T_bipush (v := (nI 6)) (pc1 := 63) (pc := 61) k_B_worth_61 rfl (by decide) ?_
      | with_reducible refine T_isubN (pc1 := 64) (pc := 63) k_B_worth_63 (by decide) (by omega) ?_
      | refine T_isub (pc1 := 64) (pc := 63) k_B_worth_63 rfl ?_
      | refine T_retI (pc := 64) k_B_worth_64 rfl (by first | rfl | decide | assumption) ?_
      | refine T_retI (pc := 67) k_B_worth_67 rfl (by first | rfl | decide | assumption) ?_
      | refine T_getV (pc1 := 72) (pc := 69) k_B_worth_69 rfl f_B_21 rfl (by first | assumption | exact ga G (by decide) rfl) (by first | assumption | (simp (disch := omega) only [pI_eq, pI_row, pI_col, va_up_self, va_up_ne, ne_eq, not_false_eq_true] <;> rfl) | rfl) ?_
      | refine T_retI (pc := 72) k_B_worth_72 rfl (by first | rfl | decide | assumption) ?_)
    first | exact kk | (rw [wth_4]; exact kk)
end C1
