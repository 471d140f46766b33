/-! The class's calls: lots, hush, what will be. -/
section PS2
def ff (i : Nat) : Prop := i = 64 ∨ i = 65 ∨ stk i
theorem ff_l {a i : Nat} (ha : a + 20 ≤ 61) (h : lnd a i) : ¬ ff i := by unfold lnd at h; unfold ff stk; omega
theorem ff_s {i : Nat} (h : ff i) : i < 121 ∨ stk i := by
  unfold ff at h
  rcases h with h | h | h
  · exact Or.inl (by omega)
  · exact Or.inl (by omega)
  · exact Or.inr h
theorem ff_w {a i : Nat} (h : ff i) : wf1 a i := Or.inr h
theorem cf_f {i : Nat} (h : cf i) : ff i := by
  rcases h with h | h
  · exact Or.inl h
  · exact Or.inr (Or.inr h)
theorem bst_none {N : Row} {n tn fr to0 : Nat} (h : n ≤ 14) : bst N n tn cNONE fr to0 = bst N n tn (-1) fr to0 := by
  unfold bst
  rw [dst_congr (fun b hb => ⟨rfl, bcs_none (by omega)⟩)]
theorem dst_none {N : Row} {n tn to0 : Nat} (h : n ≤ 14) : dst (ed N) (bcs N tn cNONE) n to0 = dst (ed N) (bcs N tn (-1)) n to0 := dst_congr (fun b hb => ⟨rfl, bcs_none (by omega)⟩)
theorem okL_deal {N : Row} {n tn : Nat} (ok : okL N n tn) (hn : n < 14) : okL (dealS N n) (n + 1) tn := by
  unfold dealS
  exact okL_comes (okL_up ok (by omega)) hn (by omega) (by omega) (by omega) (by omega) (by omega) (by omega)
theorem okW_deal {N : Row} {n : Nat} (ok : okW N) (hn : n < 14) : okW (dealS N n) := by
  unfold dealS
  have o := okW_up (i := 0) (v := dz (dz (dz (dz (N 0))))) ok (by omega)
  exact okW_agr o (comesN_ne (by decide) (by omega)) (comesN_ne (by decide) (by omega)) (fun i hi => comesN_ne (by omega) (by omega))
end PS2
section S2
variable {g : Geo} {I : IM} {K : Option Value → Geo → IM → Prop}
set_option maxHeartbeats 4000000 in
theorem c_La_addByLot {a n tn : Nat} {N : Row} (LG : LandG g a) (ok : okL N n tn) (okw : okW N) (hL : LaR g I a N n tn) (hn : n < 14) (kk : ∀ J, fre (lnd a) I J → LaR g J a (dealS N n) (n + 1) tn → K none g J) : Cl 3 M_La_addByLot [.ref a] g I K := by
  show Rl 3 M_La_addByLot 0 [some (.ref a), none, none, none, none] [] g I K
  obtain ⟨g1, g2, g3, g4, g5, g6, g7, g8, g9, g10, g11, g12, g13, g14⟩ := id LG
  have s3 := hL.2.2.2.2.2
  have b1 := hL.2.1.1
  have q1 := dq_lt (dz (N 0))
  have q2 := dq_lt (dz (dz (N 0)))
  have q3 := dq_lt (dz (dz (dz (N 0))))
  have q4 := dq_lt (dz (dz (dz (dz (N 0)))))
  have l1 := LR_seed (v := dz (N 0)) hL ok okw g14
  have l2 := LR_seed (v := dz (dz (N 0))) l1 (okL_up ok (by omega)) (okW_up okw (by omega)) g14
  have l3 := LR_seed (v := dz (dz (dz (N 0)))) l2 (okL_up (okL_up ok (by omega)) (by omega)) (okW_up (okW_up okw (by omega)) (by omega)) g14
  have l4 := LR_seed (v := dz (dz (dz (dz (N 0))))) l3 (okL_up (okL_up (okL_up ok (by omega)) (by omega)) (by omega)) (okW_up (okW_up (okW_up okw (by omega)) (by omega)) (by omega)) g14
  rw [bx_uu, bx_uu, bx_uu] at l4
  have b1c := l4.2.1.1
  repeat' (first
    | ((first | refine T_aload_n (pc1 := 1) (pc := 0) k_La_addByLot_0 rfl rfl ?_ | refine T_aload_nN (pc1 := 1) (pc := 0) k_La_addByLot_0 rfl rfl ?_) <;> try ((refine T_cV (As := []) (d1 := 1) (pc1 := 4) (pc := 1) k_La_addByLot_1 rfl (by decide) (Nat.le_of_ble_eq_true rfl) rfl o_La_draw l_La_80 rfl (by first | assumption | exact ga G (by decide) rfl | exact lgA LG (by omega)) rfl (c_La_draw g1 s3 ?_) <;> try dsimp only [psh]) <;> try (refine T_bipush (v := (nI 6)) (pc1 := 6) (pc := 4) k_La_addByLot_4 rfl (by decide) ?_ <;> try ((first | with_reducible refine T_iremN (pc1 := 7) (pc := 6) k_La_addByLot_6 (by decide) (by omega) (by omega) (by omega) ?_ | refine T_irem (pc1 := 7) (pc := 6) k_La_addByLot_6 rfl (by first | assumption | decide) ?_) <;> try (refine T_istore_n (pc1 := 8) (pc := 7) k_La_addByLot_7 rfl (Nat.le_of_ble_eq_true rfl) ?_ <;> try ((first | refine T_aload_n (pc1 := 9) (pc := 8) k_La_addByLot_8 rfl rfl ?_ | refine T_aload_nN (pc1 := 9) (pc := 8) k_La_addByLot_8 rfl rfl ?_) <;> try ((refine T_cV (As := []) (d1 := 1) (pc1 := 12) (pc := 9) k_La_addByLot_9 rfl (by decide) (Nat.le_of_ble_eq_true rfl) rfl o_La_draw l_La_80 rfl (by first | assumption | exact ga G (by decide) rfl | exact lgA LG (by omega)) rfl (c_La_draw g1 pI_eq ?_) <;> try dsimp only [psh]) <;> try (refine T_bipush (v := (nI 8)) (pc1 := 14) (pc := 12) k_La_addByLot_12 rfl (by decide) ?_ <;> try ((first | with_reducible refine T_iremN (pc1 := 15) (pc := 14) k_La_addByLot_14 (by decide) (by omega) (by omega) (by omega) ?_ | refine T_irem (pc1 := 15) (pc := 14) k_La_addByLot_14 rfl (by first | assumption | decide) ?_) <;> try (refine T_istore_n (pc1 := 16) (pc := 15) k_La_addByLot_15 rfl (Nat.le_of_ble_eq_true rfl) ?_ <;> try (refine T_iload_n (pc1 := 17) (pc := 16) k_La_addByLot_16 rfl rfl ?_ <;> try (refine T_iconst (v := (nI 1)) (pc1 := 18) (pc := 17) k_La_addByLot_17 rfl (by decide) ?_ <;> try ((first | with_reducible refine T_iaddN (pc1 := 19) (pc := 18) k_La_addByLot_18 (by decide) ?_ | refine T_iadd (pc1 := 19) (pc := 18) k_La_addByLot_18 rfl ?_) <;> try ((first | refine T_aload_n (pc1 := 20) (pc := 19) k_La_addByLot_19 rfl rfl ?_ | refine T_aload_nN (pc1 := 20) (pc := 19) k_La_addByLot_19 rfl rfl ?_)))))))))))))))
    | ((refine T_cV (As := []) (d1 := 1) (pc1 := 23) (pc := 20) k_La_addByLot_20 rfl (by decide) (Nat.le_of_ble_eq_true rfl) rfl o_La_draw l_La_80 rfl (by first | assumption | exact ga G (by decide) rfl | exact lgA LG (by omega)) rfl (c_La_draw g1 pI_eq ?_) <;> try dsimp only [psh]) <;> try (refine T_bipush (v := (nI 7)) (pc1 := 25) (pc := 23) k_La_addByLot_23 rfl (by decide) ?_ <;> try ((first | with_reducible refine T_iremN (pc1 := 26) (pc := 25) k_La_addByLot_25 (by decide) (by omega) (by omega) (by omega) ?_ | refine T_irem (pc1 := 26) (pc := 25) k_La_addByLot_25 rfl (by first | assumption | decide) ?_) <;> try ((first | with_reducible refine T_iaddN (pc1 := 27) (pc := 26) k_La_addByLot_26 (by decide) ?_ | refine T_iadd (pc1 := 27) (pc := 26) k_La_addByLot_26 rfl ?_) <;> try (refine T_bipush (v := (nI 8)) (pc1 := 29) (pc := 27) k_La_addByLot_27 rfl (by decide) ?_ <;> try ((first | with_reducible refine T_iremN (pc1 := 30) (pc := 29) k_La_addByLot_29 (by decide) (by omega) (by omega) (by omega) ?_ | refine T_irem (pc1 := 30) (pc := 29) k_La_addByLot_29 rfl (by first | assumption | decide) ?_) <;> try (refine T_istore_n (pc1 := 31) (pc := 30) k_La_addByLot_30 rfl (Nat.le_of_ble_eq_true rfl) ?_ <;> try (refine T_iconst (v := (nI 1)) (pc1 := 32) (pc := 31) k_La_addByLot_31 rfl (by decide) ?_ <;> try ((first | refine T_aload_n (pc1 := 33) (pc := 32) k_La_addByLot_32 rfl rfl ?_ | refine T_aload_nN (pc1 := 33) (pc := 32) k_La_addByLot_32 rfl rfl ?_) <;> try ((refine T_cV (As := []) (d1 := 1) (pc1 := 36) (pc := 33) k_La_addByLot_33 rfl (by decide) (Nat.le_of_ble_eq_true rfl) rfl o_La_draw l_La_80 rfl (by first | assumption | exact ga G (by decide) rfl | exact lgA LG (by omega)) rfl (c_La_draw g1 pI_eq ?_) <;> try dsimp only [psh]) <;> try (refine T_bipush (v := (nI 40)) (pc1 := 38) (pc := 36) k_La_addByLot_36 rfl (by decide) ?_ <;> try ((first | with_reducible refine T_iremN (pc1 := 39) (pc := 38) k_La_addByLot_38 (by decide) (by omega) (by omega) (by omega) ?_ | refine T_irem (pc1 := 39) (pc := 38) k_La_addByLot_38 rfl (by first | assumption | decide) ?_) <;> try ((first | with_reducible refine T_iaddN (pc1 := 40) (pc := 39) k_La_addByLot_39 (by decide) ?_ | refine T_iadd (pc1 := 40) (pc := 39) k_La_addByLot_39 rfl ?_) <;> try (refine T_istore (pc1 := 42) (pc := 40) k_La_addByLot_40 rfl (Nat.le_of_ble_eq_true rfl) ?_))))))))))))))
    | ((first | refine T_aload_n (pc1 := 43) (pc := 42) k_La_addByLot_42 rfl rfl ?_ | refine T_aload_nN (pc1 := 43) (pc := 42) k_La_addByLot_42 rfl rfl ?_) <;> try (refine T_iload_n (pc1 := 44) (pc := 43) k_La_addByLot_43 rfl rfl ?_ <;> try (refine T_iload_n (pc1 := 45) (pc := 44) k_La_addByLot_44 rfl rfl ?_ <;> try (refine T_iload_n (pc1 := 46) (pc := 45) k_La_addByLot_45 rfl rfl ?_ <;> try (refine T_iload (pc1 := 48) (pc := 46) k_La_addByLot_46 rfl rfl ?_ <;> try ((refine T_cV (As := [_, _, _, _]) (d1 := 2) (pc1 := 51) (pc := 48) k_La_addByLot_48 rfl (by decide) (Nat.le_of_ble_eq_true rfl) rfl o_La_add l_La_84 rfl (by first | assumption | exact ga G (by decide) rfl | exact lgA LG (by omega)) rfl (c_La_add (tn := tn) (N := N) LG b1c hn ?_) <;> try dsimp only [psh]) <;> try (refine T_pop (pc1 := 52) (pc := 51) k_La_addByLot_51 rfl rfl ?_ <;> try (refine T_retV (pc := 52) k_La_addByLot_52 rfl ?_))))))))
    | (refine T_cV (As := []) (d1 := 1) (pc1 := 4) (pc := 1) k_La_addByLot_1 rfl (by decide) (Nat.le_of_ble_eq_true rfl) rfl o_La_draw l_La_80 rfl (by first | assumption | exact ga G (by decide) rfl | exact lgA LG (by omega)) rfl (c_La_draw g1 s3 ?_) <;> try dsimp only [psh])
    | refine T_bipush (v := (nI 6)) (pc1 := 6) (pc := 4) k_La_addByLot_4 rfl (by decide) ?_
    | with_reducible refine T_iremN (pc1 := 7) (pc := 6) k_La_addByLot_6 (by decide) (by omega) (by omega) (by omega) ?_
    | refine T_irem (pc1 := 7) (pc := 6) k_La_addByLot_6 rfl (by first | assumption | decide) ?_
    | refine T_istore_n (pc1 := 8) (pc := 7) k_La_addByLot_7 rfl (Nat.le_of_ble_eq_true rfl) ?_
    | refine T_aload_n (pc1 := 9) (pc := 8) k_La_addByLot_8 rfl rfl ?_
    | refine T_aload_nN (pc1 := 9) (pc := 8) k_La_addByLot_8 rfl rfl ?_
    | (refine T_cV (As := []) (d1 := 1) (pc1 := 12) (pc := 9) k_La_addByLot_9 rfl (by decide) (Nat.le_of_ble_eq_true rfl) rfl o_La_draw l_La_80 rfl (by first | assumption | exact ga G (by decide) rfl | exact lgA LG (by omega)) rfl (c_La_draw g1 pI_eq ?_) <;> try dsimp only [psh])
    | refine T_bipush (v := (nI 8)) (pc1 := 14) (pc := 12) k_La_addByLot_12 rfl (by decide) ?_
    | with_reducible refine T_iremN (pc1 := 15) (pc := 14) k_La_addByLot_14 (by decide) (by omega) (by omega) (by omega) ?_
    | refine T_irem (pc1 := 15) (pc := 14) k_La_addByLot_14 rfl (by first | assumption | decide) ?_
    | refine T_istore_n (pc1 := 16) (pc := 15) k_La_addByLot_15 rfl (Nat.le_of_ble_eq_true rfl) ?_
    | refine T_iload_n (pc1 := 17) (pc := 16) k_La_addByLot_16 rfl rfl ?_
    | refine T_iconst (v := (nI 1)) (pc1 := 18) (pc := 17) k_La_addByLot_17 rfl (by decide) ?_
    | with_reducible refine T_iaddN (pc1 := 19) (pc := 18) k_La_addByLot_18 (by decide) ?_
    | refine T_iadd (pc1 := 19) (pc := 18) k_La_addByLot_18 rfl ?_
    | refine T_aload_n (pc1 := 20) (pc := 19) k_La_addByLot_19 rfl rfl ?_
    | refine T_aload_nN (pc1 := 20) (pc := 19) k_La_addByLot_19 rfl rfl ?_
    | refine T_bipush (v := (nI 7)) (pc1 := 25) (pc := 23) k_La_addByLot_23 rfl (by decide) ?_
    | with_reducible refine T_iremN (pc1 := 26) (pc := 25) k_La_addByLot_25 (by decide) (by omega) (by omega) (by omega) ?_
    | refine T_irem (pc1 := 26) (pc := 25) k_La_addByLot_25 rfl (by first | assumption | decide) ?_
    | with_reducible refine T_iaddN (pc1 := 27) (pc := 26) k_La_addByLot_26 (by decide) ?_
    | refine T_iadd (pc1 := 27) (pc := 26) k_La_addByLot_26 rfl ?_
    | refine T_bipush (v := (nI 8)) (pc1 := 29) (pc := 27) k_La_addByLot_27 rfl (by decide) ?_
    | with_reducible refine T_iremN (pc1 := 30) (pc := 29) k_La_addByLot_29 (by decide) (by omega) (by omega) (by omega) ?_
    | refine T_irem (pc1 := 30) (pc := 29) k_La_addByLot_29 rfl (by first | assumption | decide) ?_
    | refine T_istore_n (pc1 := 31) (pc := 30) k_La_addByLot_30 rfl (Nat.le_of_ble_eq_true rfl) ?_
    | refine T_iconst (v := (nI 1)) (pc1 := 32) (pc := 31) k_La_addByLot_31 rfl (by decide) ?_
    | refine T_aload_n (pc1 := 33) (pc := 32) k_La_addByLot_32 rfl rfl ?_
    | refine T_aload_nN (pc1 := 33) (pc := 32) k_La_addByLot_32 rfl rfl ?_
    | (refine T_cV (As := []) (d1 := 1) (pc1 := 36) (pc := 33) k_La_addByLot_33 rfl (by decide) (Nat.le_of_ble_eq_true rfl) rfl o_La_draw l_La_80 rfl (by first | assumption | exact ga G (by decide) rfl | exact lgA LG (by omega)) rfl (c_La_draw g1 pI_eq ?_) <;> try dsimp only [psh])
    | refine T_bipush (v := (nI 40)) (pc1 := 38) (pc := 36) k_La_addByLot_36 rfl (by decide) ?_
    | with_reducible refine T_iremN (pc1 := 39) (pc := 38) k_La_addByLot_38 (by decide) (by omega) (by omega) (by omega) ?_
    | refine T_irem (pc1 := 39) (pc := 38) k_La_addByLot_38 rfl (by first | assumption | decide) ?_
    | with_reducible refine T_iaddN (pc1 := 40) (pc := 39) k_La_addByLot_39 (by decide) ?_
    | refine T_iadd (pc1 := 40) (pc := 39) k_La_addByLot_39 rfl ?_
    | refine T_istore (pc1 := 42) (pc := 40) k_La_addByLot_40 rfl (Nat.le_of_ble_eq_true rfl) ?_
    | refine T_iload_n (pc1 := 44) (pc := 43) k_La_addByLot_43 rfl rfl ?_
    | refine T_iload_n (pc1 := 45) (pc := 44) k_La_addByLot_44 rfl rfl ?_
    | refine T_iload_n (pc1 := 46) (pc := 45) k_La_addByLot_45 rfl rfl ?_
    | refine T_iload (pc1 := 48) (pc := 46) k_La_addByLot_46 rfl rfl ?_
    | (refine T_cV (As := [_, _, _, _]) (d1 := 2) (pc1 := 51) (pc := 48) k_La_addByLot_48 rfl (by decide) (Nat.le_of_ble_eq_true rfl) rfl o_La_add l_La_84 rfl (by first | assumption | exact ga G (by decide) rfl | exact lgA LG (by omega)) rfl (c_La_add (tn := tn) (N := N) LG b1c hn ?_) <;> try dsimp only [psh])
    | refine T_pop (pc1 := 52) (pc := 51) k_La_addByLot_51 rfl rfl ?_
    | refine T_retV (pc := 52) k_La_addByLot_52 rfl ?_)
  refine kk _ ?_ (LR_add l4 (okL_up ok (by omega)) (okW_up okw (by omega)) g14 hn)
  exact fr_pI (fr_pI (fr_pI (fr_pI (fr_pI (fr_pI (fr_pI (fr_pI (fr_pI (fr_pI (fr_pI fr_rf ⟨by omega, by omega⟩) ⟨by omega, by omega⟩) ⟨by omega, by omega⟩) ⟨by omega, by omega⟩) ⟨by omega, by omega⟩) ⟨by omega, by omega⟩) ⟨by omega, by omega⟩) ⟨by omega, by omega⟩) ⟨by omega, by omega⟩) ⟨by omega, by omega⟩) ⟨by omega, by omega⟩
theorem c_S_deal {N : Row} {n tn : Nat} {v : Int32} (G : GeoOK g) (ok : okL N n tn) (okw : okW N) (hL : LaR g I 1 N n tn) (kk : ∀ J r n', fre (lnd 1) I J → okL (dealN N n (dealM n v)) n' tn → okW (dealN N n (dealM n v)) → LaR g J 1 (dealN N n (dealM n v)) n' tn → r = dealA n v → K (some (.int r)) g J) : Cl 4 M_S_deal [.ref 0, .int v] g I K := by
  show Rl 4 M_S_deal 0 [some (.ref 0), some (.int v), none, none] [] g I K
  have LG := land_1 G
  have h14 := ok.2.1
  have b1 := hL.2.1.1
  have e1 : (nI 1).toInt = 1 := rfl
  have e14 : (nI 14).toInt = 14 := rfl
  by_cases hok : bt 1 14 v
  · rw [dealM, dealA, if_pos hok, if_pos hok] at kk
    obtain ⟨q, hq1, hq2, rfl⟩ := bt_of (lo := 1) (hi := 14) hok (by decide)
    rw [nI_clamp (by omega)] at kk
    have eq1 := nI_toInt (n := q) (by omega)
    have loop : ∀ r i n' (R : Row) (J : IM), i + r = min q (14 - n) → n' + r ≤ 14 → fre (lnd 1) I J → okL R n' tn → okW R → LaR g J 1 R n' tn → dealN R n' r = dealN N n (min q (14 - n)) → Rl 4 M_S_deal 30 [some (.ref 0), some (.int (nI q)), some (.int (nI (min q (14 - n)))), some (.int (nI i))] [] g J K := by
      intro r
      induction r with
      | zero =>
        intro i n' R J hi hn' hJ okR okwR hR hd
        have hi : i = min q (14 - n) := by omega
        have hd : R = dealN N n (min q (14 - n)) := hd
        rw [← hd] at kk
        have kk := kk J _ n' hJ okR okwR hR rfl
        repeat' (first
          | (refine T_iload_n (pc1 := 31) (pc := 30) k_S_deal_30 rfl rfl ?_ <;> try (refine T_iload_n (pc1 := 32) (pc := 31) k_S_deal_31 rfl rfl ?_ <;> try ((first | (with_reducible refine T_icmp_geN (tgt := 48) (pc1 := 35) (pc := 32) k_S_deal_32 (by decide) (by decide) (by omega) (by omega) (fun hc => ?_) (fun hc => ?_) <;> first | (exfalso; omega) | skip) | refine T_icmp_ge_t (tgt := 48) (pc := 32) k_S_deal_32 rfl (by decide) ?_ | refine T_icmp_ge_f (tgt := 48) (pc1 := 35) (pc := 32) k_S_deal_32 rfl rfl (by decide) ?_ | refine T_icmp_ge (tgt := 48) (pc1 := 35) (pc := 32) k_S_deal_32 rfl rfl (fun hc => ?_) (fun hc => ?_)))))
          | (refine T_iload_n (pc1 := 49) (pc := 48) k_S_deal_48 rfl rfl ?_ <;> try (refine T_retI (pc := 49) k_S_deal_49 rfl (by first | rfl | decide | assumption) ?_))
          | refine T_iload_n (pc1 := 32) (pc := 31) k_S_deal_31 rfl rfl ?_
          | (with_reducible refine T_icmp_geN (tgt := 48) (pc1 := 35) (pc := 32) k_S_deal_32 (by decide) (by decide) (by omega) (by omega) (fun hc => ?_) (fun hc => ?_) <;> first | (exfalso; omega) | skip)
          | refine T_icmp_ge_t (tgt := 48) (pc := 32) k_S_deal_32 rfl (by decide) ?_
          | refine T_icmp_ge_f (tgt := 48) (pc1 := 35) (pc := 32) k_S_deal_32 rfl rfl (by decide) ?_
          | refine T_icmp_ge (tgt := 48) (pc1 := 35) (pc := 32) k_S_deal_32 rfl rfl (fun hc => ?_) (fun hc => ?_)
          | refine T_retI (pc := 49) k_S_deal_49 rfl (by first | rfl | decide | assumption) ?_)
        all_goals first | exact kk | (exfalso; omega)
      | succ r ih =>
        intro i n' R J hi hn' hJ okR okwR hR hd
        refine T_iload_n (pc1 := 31) (pc := 30) k_S_deal_30 rfl rfl ?_
        repeat' (first
          | (refine T_iload_n (pc1 := 32) (pc := 31) k_S_deal_31 rfl rfl ?_ <;> try ((first | (with_reducible refine T_icmp_geN (tgt := 48) (pc1 := 35) (pc := 32) k_S_deal_32 (by decide) (by decide) (by omega) (by omega) (fun hc => ?_) (fun hc => ?_) <;> first | (exfalso; omega) | skip) | refine T_icmp_ge_t (tgt := 48) (pc := 32) k_S_deal_32 rfl (by decide) ?_ | refine T_icmp_ge_f (tgt := 48) (pc1 := 35) (pc := 32) k_S_deal_32 rfl rfl (by decide) ?_ | refine T_icmp_ge (tgt := 48) (pc1 := 35) (pc := 32) k_S_deal_32 rfl rfl (fun hc => ?_) (fun hc => ?_))))
          | ((first | refine T_aload_n (pc1 := 36) (pc := 35) k_S_deal_35 rfl rfl ?_ | refine T_aload_nN (pc1 := 36) (pc := 35) k_S_deal_35 rfl rfl ?_) <;> try (refine T_getR (pc1 := 39) (pc := 36) k_S_deal_36 rfl f_S_10 rfl (by first | assumption | exact ga G (by decide) rfl | exact lgA LG (by omega)) (by first | assumption | exact gr G (by decide) rfl | exact lgR LG (by omega)) ?_ <;> try ((refine T_cV (As := []) (d1 := 3) (pc1 := 42) (pc := 39) k_S_deal_39 rfl (by decide) (Nat.le_of_ble_eq_true rfl) rfl o_La_addByLot l_S_158 rfl (by first | assumption | exact ga G (by decide) rfl | exact lgA LG (by omega)) rfl (c_La_addByLot LG okR okwR hR (by omega) (fun J2 hJ2 hJ2L => ?_)) <;> try dsimp only [psh]) <;> try ((first | refine T_iincN (b := 1) (pc1 := 45) (pc := 42) k_S_deal_42 rfl rfl (by decide) ?_ | refine T_iinc (v := (nI 1)) (pc1 := 45) (pc := 42) k_S_deal_42 rfl rfl (by decide) ?_) <;> try (refine T_goto (tgt := 30) (pc := 45) k_S_deal_45 rfl ?_)))))
          | (with_reducible refine T_icmp_geN (tgt := 48) (pc1 := 35) (pc := 32) k_S_deal_32 (by decide) (by decide) (by omega) (by omega) (fun hc => ?_) (fun hc => ?_) <;> first | (exfalso; omega) | skip)
          | refine T_icmp_ge_t (tgt := 48) (pc := 32) k_S_deal_32 rfl (by decide) ?_
          | refine T_icmp_ge_f (tgt := 48) (pc1 := 35) (pc := 32) k_S_deal_32 rfl rfl (by decide) ?_
          | refine T_icmp_ge (tgt := 48) (pc1 := 35) (pc := 32) k_S_deal_32 rfl rfl (fun hc => ?_) (fun hc => ?_)
          | refine T_getR (pc1 := 39) (pc := 36) k_S_deal_36 rfl f_S_10 rfl (by first | assumption | exact ga G (by decide) rfl | exact lgA LG (by omega)) (by first | assumption | exact gr G (by decide) rfl | exact lgR LG (by omega)) ?_
          | (refine T_cV (As := []) (d1 := 3) (pc1 := 42) (pc := 39) k_S_deal_39 rfl (by decide) (Nat.le_of_ble_eq_true rfl) rfl o_La_addByLot l_S_158 rfl (by first | assumption | exact ga G (by decide) rfl | exact lgA LG (by omega)) rfl (c_La_addByLot LG okR okwR hR (by omega) (fun J2 hJ2 hJ2L => ?_)) <;> try dsimp only [psh])
          | refine T_iincN (b := 1) (pc1 := 45) (pc := 42) k_S_deal_42 rfl rfl (by decide) ?_
          | refine T_iinc (v := (nI 1)) (pc1 := 45) (pc := 42) k_S_deal_42 rfl rfl (by decide) ?_
          | refine T_goto (tgt := 30) (pc := 45) k_S_deal_45 rfl ?_)
        all_goals try (exfalso; omega)
        exact ih (i + 1) (n' + 1) _ J2 (by omega) (by omega) (fr_tr hJ hJ2) (okL_deal okR (by omega)) (okW_deal okwR (by omega)) hJ2L hd
    repeat' (first
      | (refine T_iload_n (pc1 := 1) (pc := 0) k_S_deal_0 rfl rfl ?_ <;> try (refine T_iconst (v := (nI 1)) (pc1 := 2) (pc := 1) k_S_deal_1 rfl (by decide) ?_ <;> try (refine T_bipush (v := (nI 14)) (pc1 := 4) (pc := 2) k_S_deal_2 rfl (by decide) ?_ <;> try ((refine T_cS (As := [_, _, _]) (d1 := 1) (pc1 := 7) (pc := 4) k_S_deal_4 rfl (by decide) (Nat.le_of_ble_eq_true rfl) rfl o_S_isWithin l_S_77 rfl (c_S_isWithin (fun hw => ?_) (fun hw => ?_)) <;> try dsimp only [psh]) <;> try ((first | (with_reducible refine T_if_neN (tgt := 13) (pc1 := 10) (pc := 7) k_S_deal_7 (by decide) (by decide) (by omega) (fun hc => ?_) (fun hc => ?_) <;> first | (exfalso; omega) | skip) | refine T_if_ne_t (tgt := 13) (pc := 7) k_S_deal_7 rfl (by decide) ?_ | refine T_if_ne_f (tgt := 13) (pc1 := 10) (pc := 7) k_S_deal_7 rfl rfl (by decide) ?_ | refine T_if_ne (tgt := 13) (pc1 := 10) (pc := 7) k_S_deal_7 rfl rfl (fun hc => ?_) (fun hc => ?_)))))))
      | (refine T_ldc (v := (-1000000001)) (pc1 := 12) (pc := 10) k_S_deal_10 rfl c_S_81 ?_ <;> try (refine T_retI (pc := 12) k_S_deal_12 rfl (by first | rfl | decide | assumption) ?_))
      | (refine T_iload_n (pc1 := 14) (pc := 13) k_S_deal_13 rfl rfl ?_ <;> try (refine T_bipush (v := (nI 14)) (pc1 := 16) (pc := 14) k_S_deal_14 rfl (by decide) ?_ <;> try ((first | refine T_aload_n (pc1 := 17) (pc := 16) k_S_deal_16 rfl rfl ?_ | refine T_aload_nN (pc1 := 17) (pc := 16) k_S_deal_16 rfl rfl ?_) <;> try (refine T_getR (pc1 := 20) (pc := 17) k_S_deal_17 rfl f_S_10 rfl (by first | assumption | exact ga G (by decide) rfl | exact lgA LG (by omega)) (by first | assumption | exact gr G (by decide) rfl | exact lgR LG (by omega)) ?_ <;> try (refine T_getV (pc1 := 23) (pc := 20) k_S_deal_20 rfl f_S_82 rfl (by first | assumption | exact ga G (by decide) rfl | exact lgA LG (by omega)) (by first | assumption | (simp (disch := omega) only [pI_eq, pI_row, pI_col, va_up_self, va_up_ne, ne_eq, not_false_eq_true] <;> rfl) | rfl) ?_ <;> try ((first | with_reducible refine T_isubN (pc1 := 24) (pc := 23) k_S_deal_23 (by decide) (by omega) ?_ | refine T_isub (pc1 := 24) (pc := 23) k_S_deal_23 rfl ?_) <;> try ((first | refine T_mminV (pc1 := 27) (pc := 24) k_S_deal_24 rfl l_S_152 (by decide) (Nat.le_of_ble_eq_true rfl) (by with_reducible rfl) (by with_reducible rfl) (by omega) (by omega) ?_ | refine T_mmin (pc1 := 27) (pc := 24) k_S_deal_24 rfl l_S_152 (by decide) (Nat.le_of_ble_eq_true rfl) ?_) <;> try (refine T_istore_n (pc1 := 28) (pc := 27) k_S_deal_27 rfl (Nat.le_of_ble_eq_true rfl) ?_ <;> try (refine T_iconst (v := (nI 0)) (pc1 := 29) (pc := 28) k_S_deal_28 rfl (by decide) ?_ <;> try (refine T_istore_n (pc1 := 30) (pc := 29) k_S_deal_29 rfl (Nat.le_of_ble_eq_true rfl) ?_))))))))))
      | refine T_iconst (v := (nI 1)) (pc1 := 2) (pc := 1) k_S_deal_1 rfl (by decide) ?_
      | refine T_bipush (v := (nI 14)) (pc1 := 4) (pc := 2) k_S_deal_2 rfl (by decide) ?_
      | (refine T_cS (As := [_, _, _]) (d1 := 1) (pc1 := 7) (pc := 4) k_S_deal_4 rfl (by decide) (Nat.le_of_ble_eq_true rfl) rfl o_S_isWithin l_S_77 rfl (c_S_isWithin (fun hw => ?_) (fun hw => ?_)) <;> try dsimp only [psh])
      | (with_reducible refine T_if_neN (tgt := 13) (pc1 := 10) (pc := 7) k_S_deal_7 (by decide) (by decide) (by omega) (fun hc => ?_) (fun hc => ?_) <;> first | (exfalso; omega) | skip)
      | refine T_if_ne_t (tgt := 13) (pc := 7) k_S_deal_7 rfl (by decide) ?_
      | refine T_if_ne_f (tgt := 13) (pc1 := 10) (pc := 7) k_S_deal_7 rfl rfl (by decide) ?_
      | refine T_if_ne (tgt := 13) (pc1 := 10) (pc := 7) k_S_deal_7 rfl rfl (fun hc => ?_) (fun hc => ?_)
      | refine T_retI (pc := 12) k_S_deal_12 rfl (by first | rfl | decide | assumption) ?_
      | refine T_bipush (v := (nI 14)) (pc1 := 16) (pc := 14) k_S_deal_14 rfl (by decide) ?_
      | refine T_aload_n (pc1 := 17) (pc := 16) k_S_deal_16 rfl rfl ?_
      | refine T_aload_nN (pc1 := 17) (pc := 16) k_S_deal_16 rfl rfl ?_
      | refine T_getR (pc1 := 20) (pc := 17) k_S_deal_17 rfl f_S_10 rfl (by first | assumption | exact ga G (by decide) rfl | exact lgA LG (by omega)) (by first | assumption | exact gr G (by decide) rfl | exact lgR LG (by omega)) ?_
      | refine T_getV (pc1 := 23) (pc := 20) k_S_deal_20 rfl f_S_82 rfl (by first | assumption | exact ga G (by decide) rfl | exact lgA LG (by omega)) (by first | assumption | (simp (disch := omega) only [pI_eq, pI_row, pI_col, va_up_self, va_up_ne, ne_eq, not_false_eq_true] <;> rfl) | rfl) ?_
      | with_reducible refine T_isubN (pc1 := 24) (pc := 23) k_S_deal_23 (by decide) (by omega) ?_
      | refine T_isub (pc1 := 24) (pc := 23) k_S_deal_23 rfl ?_
      | refine T_mminV (pc1 := 27) (pc := 24) k_S_deal_24 rfl l_S_152 (by decide) (Nat.le_of_ble_eq_true rfl) (by with_reducible rfl) (by with_reducible rfl) (by omega) (by omega) ?_
      | refine T_mmin (pc1 := 27) (pc := 24) k_S_deal_24 rfl l_S_152 (by decide) (Nat.le_of_ble_eq_true rfl) ?_
      | refine T_istore_n (pc1 := 28) (pc := 27) k_S_deal_27 rfl (Nat.le_of_ble_eq_true rfl) ?_
      | refine T_iconst (v := (nI 0)) (pc1 := 29) (pc := 28) k_S_deal_28 rfl (by decide) ?_
      | refine T_istore_n (pc1 := 30) (pc := 29) k_S_deal_29 rfl (Nat.le_of_ble_eq_true rfl) ?_)
    all_goals first | exact loop (min q (14 - n)) 0 n N I (by omega) (by omega) fr_rf ok okw hL rfl | (exfalso; apply hw; constructor <;> omega)
  · rw [dealM, dealA, if_neg hok, if_neg hok] at kk
    have kk := kk I _ n fr_rf ok okw hL rfl
    repeat' (first
      | (refine T_iload_n (pc1 := 1) (pc := 0) k_S_deal_0 rfl rfl ?_ <;> try (refine T_iconst (v := (nI 1)) (pc1 := 2) (pc := 1) k_S_deal_1 rfl (by decide) ?_ <;> try (refine T_bipush (v := (nI 14)) (pc1 := 4) (pc := 2) k_S_deal_2 rfl (by decide) ?_ <;> try ((refine T_cS (As := [_, _, _]) (d1 := 1) (pc1 := 7) (pc := 4) k_S_deal_4 rfl (by decide) (Nat.le_of_ble_eq_true rfl) rfl o_S_isWithin l_S_77 rfl (c_S_isWithin (fun hw => ?_) (fun hw => ?_)) <;> try dsimp only [psh]) <;> try ((first | (with_reducible refine T_if_neN (tgt := 13) (pc1 := 10) (pc := 7) k_S_deal_7 (by decide) (by decide) (by omega) (fun hc => ?_) (fun hc => ?_) <;> first | (exfalso; omega) | skip) | refine T_if_ne_t (tgt := 13) (pc := 7) k_S_deal_7 rfl (by decide) ?_ | refine T_if_ne_f (tgt := 13) (pc1 := 10) (pc := 7) k_S_deal_7 rfl rfl (by decide) ?_ | refine T_if_ne (tgt := 13) (pc1 := 10) (pc := 7) k_S_deal_7 rfl rfl (fun hc => ?_) (fun hc => ?_)))))))
      | (refine T_ldc (v := (-1000000001)) (pc1 := 12) (pc := 10) k_S_deal_10 rfl c_S_81 ?_ <;> try (refine T_retI (pc := 12) k_S_deal_12 rfl (by first | rfl | decide | assumption) ?_))
      | refine T_iconst (v := (nI 1)) (pc1 := 2) (pc := 1) k_S_deal_1 rfl (by decide) ?_
      | refine T_bipush (v := (nI 14)) (pc1 := 4) (pc := 2) k_S_deal_2 rfl (by decide) ?_
      | (refine T_cS (As := [_, _, _]) (d1 := 1) (pc1 := 7) (pc := 4) k_S_deal_4 rfl (by decide) (Nat.le_of_ble_eq_true rfl) rfl o_S_isWithin l_S_77 rfl (c_S_isWithin (fun hw => ?_) (fun hw => ?_)) <;> try dsimp only [psh])
      | (with_reducible refine T_if_neN (tgt := 13) (pc1 := 10) (pc := 7) k_S_deal_7 (by decide) (by decide) (by omega) (fun hc => ?_) (fun hc => ?_) <;> first | (exfalso; omega) | skip)
      | refine T_if_ne_t (tgt := 13) (pc := 7) k_S_deal_7 rfl (by decide) ?_
      | refine T_if_ne_f (tgt := 13) (pc1 := 10) (pc := 7) k_S_deal_7 rfl rfl (by decide) ?_
      | refine T_if_ne (tgt := 13) (pc1 := 10) (pc := 7) k_S_deal_7 rfl rfl (fun hc => ?_) (fun hc => ?_)
      | refine T_retI (pc := 12) k_S_deal_12 rfl (by first | rfl | decide | assumption) ?_)
    all_goals first | exact kk | (exfalso; apply hok; constructor <;> omega)
theorem hsN_okW {N : Row} (okw : okW N) : ∀ b, b ≤ 14 → okW (hsN N b)
  | 0, _ => okw
  | b + 1, h => okW_up (hsN_okW okw b (by omega)) (by omega)
theorem hsN_okL {N : Row} {n tn : Nat} (ok : okL N n tn) : ∀ b, b ≤ n → okL (hsN N b) n tn
  | 0, _ => ok
  | b + 1, h => by
    have o := hsN_okL ok b (by omega)
    exact okL_upb o (by omega) (by decide) (okB_5 (o.2.2.2.2.1 b (by omega)) (Or.inl rfl))
theorem c_S_hush {N : Row} {n tn : Nat} (G : GeoOK g) (ok : okL N n tn) (okw : okW N) (hL : LaR g I 1 N n tn) (kk : ∀ J, fre (lnd 1) I J → okL (hsN N n) n tn → okW (hsN N n) → LaR g J 1 (hsN N n) n tn → K (some (.int (nI (hsC N n)))) g J) : Cl 2 M_S_hush [.ref 0] g I K := by
  show Rl 2 M_S_hush 0 [some (.ref 0), none, none] [] g I K
  have LG := land_1 G
  have h14 := ok.2.1
  have loop : ∀ q b (J : IM), b + q = n → fre (lnd 1) I J → LaR g J 1 (hsN N b) n tn → Rl 2 M_S_hush 10 [some (.ref 0), some (.int (nI (hsC N n))), some (.int (nI b))] [] g J K := by
    intro q
    induction q with
    | zero =>
      intro b J hb hJ hR
      have hb : b = n := by omega
      subst hb
      have b1 := hR.2.1.1
      have kk := kk J hJ (hsN_okL ok b (Nat.le_refl _)) (hsN_okW okw b h14) hR
      repeat' (first
        | (refine T_iload_n (pc1 := 11) (pc := 10) k_S_hush_10 rfl rfl ?_ <;> try ((first | refine T_aload_n (pc1 := 12) (pc := 11) k_S_hush_11 rfl rfl ?_ | refine T_aload_nN (pc1 := 12) (pc := 11) k_S_hush_11 rfl rfl ?_) <;> try (refine T_getR (pc1 := 15) (pc := 12) k_S_hush_12 rfl f_S_10 rfl (by first | assumption | exact ga G (by decide) rfl | exact lgA LG (by omega)) (by first | assumption | exact gr G (by decide) rfl | exact lgR LG (by omega)) ?_ <;> try (refine T_getV (pc1 := 18) (pc := 15) k_S_hush_15 rfl f_S_82 rfl (by first | assumption | exact ga G (by decide) rfl | exact lgA LG (by omega)) (by first | assumption | (simp (disch := omega) only [pI_eq, pI_row, pI_col, va_up_self, va_up_ne, ne_eq, not_false_eq_true] <;> rfl) | rfl) ?_ <;> try ((first | (with_reducible refine T_icmp_geN (tgt := 41) (pc1 := 21) (pc := 18) k_S_hush_18 (by decide) (by decide) (by omega) (by omega) (fun hc => ?_) (fun hc => ?_) <;> first | (exfalso; omega) | skip) | refine T_icmp_ge_t (tgt := 41) (pc := 18) k_S_hush_18 rfl (by decide) ?_ | refine T_icmp_ge_f (tgt := 41) (pc1 := 21) (pc := 18) k_S_hush_18 rfl rfl (by decide) ?_ | refine T_icmp_ge (tgt := 41) (pc1 := 21) (pc := 18) k_S_hush_18 rfl rfl (fun hc => ?_) (fun hc => ?_)))))))
        | (refine T_iload_n (pc1 := 42) (pc := 41) k_S_hush_41 rfl rfl ?_ <;> try (refine T_retI (pc := 42) k_S_hush_42 rfl (by first | rfl | decide | assumption) ?_))
        | refine T_aload_n (pc1 := 12) (pc := 11) k_S_hush_11 rfl rfl ?_
        | refine T_aload_nN (pc1 := 12) (pc := 11) k_S_hush_11 rfl rfl ?_
        | refine T_getR (pc1 := 15) (pc := 12) k_S_hush_12 rfl f_S_10 rfl (by first | assumption | exact ga G (by decide) rfl | exact lgA LG (by omega)) (by first | assumption | exact gr G (by decide) rfl | exact lgR LG (by omega)) ?_
        | refine T_getV (pc1 := 18) (pc := 15) k_S_hush_15 rfl f_S_82 rfl (by first | assumption | exact ga G (by decide) rfl | exact lgA LG (by omega)) (by first | assumption | (simp (disch := omega) only [pI_eq, pI_row, pI_col, va_up_self, va_up_ne, ne_eq, not_false_eq_true] <;> rfl) | rfl) ?_
        | (with_reducible refine T_icmp_geN (tgt := 41) (pc1 := 21) (pc := 18) k_S_hush_18 (by decide) (by decide) (by omega) (by omega) (fun hc => ?_) (fun hc => ?_) <;> first | (exfalso; omega) | skip)
        | refine T_icmp_ge_t (tgt := 41) (pc := 18) k_S_hush_18 rfl (by decide) ?_
        | refine T_icmp_ge_f (tgt := 41) (pc1 := 21) (pc := 18) k_S_hush_18 rfl rfl (by decide) ?_
        | refine T_icmp_ge (tgt := 41) (pc1 := 21) (pc := 18) k_S_hush_18 rfl rfl (fun hc => ?_) (fun hc => ?_)
        | refine T_retI (pc := 42) k_S_hush_42 rfl (by first | rfl | decide | assumption) ?_)
      exact kk
    | succ q ih =>
      intro b J hb hJ hR
      have b1 := hR.2.1.1
      have gb := lgA LG (show b < 14 by omega)
      refine T_iload_n (pc1 := 11) (pc := 10) k_S_hush_10 rfl rfl ?_
      repeat' (first
        | ((first | refine T_aload_n (pc1 := 12) (pc := 11) k_S_hush_11 rfl rfl ?_ | refine T_aload_nN (pc1 := 12) (pc := 11) k_S_hush_11 rfl rfl ?_) <;> try (refine T_getR (pc1 := 15) (pc := 12) k_S_hush_12 rfl f_S_10 rfl (by first | assumption | exact ga G (by decide) rfl | exact lgA LG (by omega)) (by first | assumption | exact gr G (by decide) rfl | exact lgR LG (by omega)) ?_ <;> try (refine T_getV (pc1 := 18) (pc := 15) k_S_hush_15 rfl f_S_82 rfl (by first | assumption | exact ga G (by decide) rfl | exact lgA LG (by omega)) (by first | assumption | (simp (disch := omega) only [pI_eq, pI_row, pI_col, va_up_self, va_up_ne, ne_eq, not_false_eq_true] <;> rfl) | rfl) ?_ <;> try ((first | (with_reducible refine T_icmp_geN (tgt := 41) (pc1 := 21) (pc := 18) k_S_hush_18 (by decide) (by decide) (by omega) (by omega) (fun hc => ?_) (fun hc => ?_) <;> first | (exfalso; omega) | skip) | refine T_icmp_ge_t (tgt := 41) (pc := 18) k_S_hush_18 rfl (by decide) ?_ | refine T_icmp_ge_f (tgt := 41) (pc1 := 21) (pc := 18) k_S_hush_18 rfl rfl (by decide) ?_ | refine T_icmp_ge (tgt := 41) (pc1 := 21) (pc := 18) k_S_hush_18 rfl rfl (fun hc => ?_) (fun hc => ?_))))))
        | ((first | refine T_aload_n (pc1 := 22) (pc := 21) k_S_hush_21 rfl rfl ?_ | refine T_aload_nN (pc1 := 22) (pc := 21) k_S_hush_21 rfl rfl ?_) <;> try (refine T_getR (pc1 := 25) (pc := 22) k_S_hush_22 rfl f_S_10 rfl (by first | assumption | exact ga G (by decide) rfl | exact lgA LG (by omega)) (by first | assumption | exact gr G (by decide) rfl | exact lgR LG (by omega)) ?_ <;> try (refine T_getR (pc1 := 28) (pc := 25) k_S_hush_25 rfl f_S_93 rfl (by first | assumption | exact ga G (by decide) rfl | exact lgA LG (by omega)) (by first | assumption | exact gr G (by decide) rfl | exact lgR LG (by omega)) ?_ <;> try (refine T_iload_n (pc1 := 29) (pc := 28) k_S_hush_28 rfl rfl ?_ <;> try ((first | refine T_aaldQ (e0 := 4) (pc1 := 30) (pc := 29) k_S_hush_29 rfl (by first | assumption | exact ga G (by decide) rfl | exact lgA LG (by omega)) (by decide) (by omega) (by omega) (by first | assumption | exact gr G (by decide) rfl | exact lgR LG (by omega)) ?_ | refine T_aaldQ (e0 := 0) (pc1 := 30) (pc := 29) k_S_hush_29 rfl (by first | assumption | exact ga G (by decide) rfl | exact lgA LG (by omega)) (by decide) (by omega) (by omega) (by first | assumption | exact gr G (by decide) rfl | exact lgR LG (by omega)) ?_ | refine T_aaldQ (e0 := 1) (pc1 := 30) (pc := 29) k_S_hush_29 rfl (by first | assumption | exact ga G (by decide) rfl | exact lgA LG (by omega)) (by decide) (by omega) (by omega) (by first | assumption | exact gr G (by decide) rfl | exact lgR LG (by omega)) ?_ | refine T_aaldQ (e0 := 2) (pc1 := 30) (pc := 29) k_S_hush_29 rfl (by first | assumption | exact ga G (by decide) rfl | exact lgA LG (by omega)) (by decide) (by omega) (by omega) (by first | assumption | exact gr G (by decide) rfl | exact lgR LG (by omega)) ?_ | refine T_aaldQ (e0 := 3) (pc1 := 30) (pc := 29) k_S_hush_29 rfl (by first | assumption | exact ga G (by decide) rfl | exact lgA LG (by omega)) (by decide) (by omega) (by omega) (by first | assumption | exact gr G (by decide) rfl | exact lgR LG (by omega)) ?_) <;> try (refine T_ldc (v := (-1000000005)) (pc1 := 32) (pc := 30) k_S_hush_30 rfl c_S_148 ?_ <;> try (refine T_putI (pc1 := 35) (pc := 32) k_S_hush_32 rfl f_S_114 rfl (by first | assumption | exact ga G (by decide) rfl | exact lgA LG (by omega)) (by first | rfl | decide | assumption) (by first | rfl | decide | assumption) ?_ <;> try ((first | refine T_iincN (b := 1) (pc1 := 38) (pc := 35) k_S_hush_35 rfl rfl (by decide) ?_ | refine T_iinc (v := (nI 1)) (pc1 := 38) (pc := 35) k_S_hush_35 rfl rfl (by decide) ?_) <;> try (refine T_goto (tgt := 10) (pc := 38) k_S_hush_38 rfl ?_)))))))))
        | refine T_getR (pc1 := 15) (pc := 12) k_S_hush_12 rfl f_S_10 rfl (by first | assumption | exact ga G (by decide) rfl | exact lgA LG (by omega)) (by first | assumption | exact gr G (by decide) rfl | exact lgR LG (by omega)) ?_
        | refine T_getV (pc1 := 18) (pc := 15) k_S_hush_15 rfl f_S_82 rfl (by first | assumption | exact ga G (by decide) rfl | exact lgA LG (by omega)) (by first | assumption | (simp (disch := omega) only [pI_eq, pI_row, pI_col, va_up_self, va_up_ne, ne_eq, not_false_eq_true] <;> rfl) | rfl) ?_
        | (with_reducible refine T_icmp_geN (tgt := 41) (pc1 := 21) (pc := 18) k_S_hush_18 (by decide) (by decide) (by omega) (by omega) (fun hc => ?_) (fun hc => ?_) <;> first | (exfalso; omega) | skip)
        | refine T_icmp_ge_t (tgt := 41) (pc := 18) k_S_hush_18 rfl (by decide) ?_
        | refine T_icmp_ge_f (tgt := 41) (pc1 := 21) (pc := 18) k_S_hush_18 rfl rfl (by decide) ?_
        | refine T_icmp_ge (tgt := 41) (pc1 := 21) (pc := 18) k_S_hush_18 rfl rfl (fun hc => ?_) (fun hc => ?_)
        | refine T_getR (pc1 := 25) (pc := 22) k_S_hush_22 rfl f_S_10 rfl (by first | assumption | exact ga G (by decide) rfl | exact lgA LG (by omega)) (by first | assumption | exact gr G (by decide) rfl | exact lgR LG (by omega)) ?_
        | refine T_getR (pc1 := 28) (pc := 25) k_S_hush_25 rfl f_S_93 rfl (by first | assumption | exact ga G (by decide) rfl | exact lgA LG (by omega)) (by first | assumption | exact gr G (by decide) rfl | exact lgR LG (by omega)) ?_
        | refine T_iload_n (pc1 := 29) (pc := 28) k_S_hush_28 rfl rfl ?_
        | refine T_aaldQ (e0 := 4) (pc1 := 30) (pc := 29) k_S_hush_29 rfl (by first | assumption | exact ga G (by decide) rfl | exact lgA LG (by omega)) (by decide) (by omega) (by omega) (by first | assumption | exact gr G (by decide) rfl | exact lgR LG (by omega)) ?_
        | refine T_aaldQ (e0 := 0) (pc1 := 30) (pc := 29) k_S_hush_29 rfl (by first | assumption | exact ga G (by decide) rfl | exact lgA LG (by omega)) (by decide) (by omega) (by omega) (by first | assumption | exact gr G (by decide) rfl | exact lgR LG (by omega)) ?_
        | refine T_aaldQ (e0 := 1) (pc1 := 30) (pc := 29) k_S_hush_29 rfl (by first | assumption | exact ga G (by decide) rfl | exact lgA LG (by omega)) (by decide) (by omega) (by omega) (by first | assumption | exact gr G (by decide) rfl | exact lgR LG (by omega)) ?_
        | refine T_aaldQ (e0 := 2) (pc1 := 30) (pc := 29) k_S_hush_29 rfl (by first | assumption | exact ga G (by decide) rfl | exact lgA LG (by omega)) (by decide) (by omega) (by omega) (by first | assumption | exact gr G (by decide) rfl | exact lgR LG (by omega)) ?_
        | refine T_aaldQ (e0 := 3) (pc1 := 30) (pc := 29) k_S_hush_29 rfl (by first | assumption | exact ga G (by decide) rfl | exact lgA LG (by omega)) (by decide) (by omega) (by omega) (by first | assumption | exact gr G (by decide) rfl | exact lgR LG (by omega)) ?_
        | refine T_ldc (v := (-1000000005)) (pc1 := 32) (pc := 30) k_S_hush_30 rfl c_S_148 ?_
        | refine T_putI (pc1 := 35) (pc := 32) k_S_hush_32 rfl f_S_114 rfl (by first | assumption | exact ga G (by decide) rfl | exact lgA LG (by omega)) (by first | rfl | decide | assumption) (by first | rfl | decide | assumption) ?_
        | refine T_iincN (b := 1) (pc1 := 38) (pc := 35) k_S_hush_35 rfl rfl (by decide) ?_
        | refine T_iinc (v := (nI 1)) (pc1 := 38) (pc := 35) k_S_hush_35 rfl rfl (by decide) ?_
        | refine T_goto (tgt := 10) (pc := 38) k_S_hush_38 rfl ?_)
      exact ih (b + 1) _ (by omega) (fr_pI hJ ⟨by omega, by omega⟩) (LR_bit hR (hsN_okL ok b (by omega)) (hsN_okW okw b (by omega)) (by decide) (by omega) (by decide))
  repeat' (first
    | ((first | refine T_aload_n (pc1 := 1) (pc := 0) k_S_hush_0 rfl rfl ?_ | refine T_aload_nN (pc1 := 1) (pc := 0) k_S_hush_0 rfl rfl ?_) <;> try (refine T_getR (pc1 := 4) (pc := 1) k_S_hush_1 rfl f_S_10 rfl (by first | assumption | exact ga G (by decide) rfl | exact lgA LG (by omega)) (by first | assumption | exact gr G (by decide) rfl | exact lgR LG (by omega)) ?_ <;> try ((refine T_cV (As := []) (d1 := 1) (pc1 := 7) (pc := 4) k_S_hush_4 rfl (by decide) (Nat.le_of_ble_eq_true rfl) rfl o_La_saidInAll l_S_190 rfl (by first | assumption | exact ga G (by decide) rfl | exact lgA LG (by omega)) rfl (c_La_saidInAll LG ok hL.2.1 ?_) <;> try dsimp only [psh]) <;> try (refine T_istore_n (pc1 := 8) (pc := 7) k_S_hush_7 rfl (Nat.le_of_ble_eq_true rfl) ?_ <;> try (refine T_iconst (v := (nI 0)) (pc1 := 9) (pc := 8) k_S_hush_8 rfl (by decide) ?_ <;> try (refine T_istore_n (pc1 := 10) (pc := 9) k_S_hush_9 rfl (Nat.le_of_ble_eq_true rfl) ?_))))))
    | refine T_getR (pc1 := 4) (pc := 1) k_S_hush_1 rfl f_S_10 rfl (by first | assumption | exact ga G (by decide) rfl | exact lgA LG (by omega)) (by first | assumption | exact gr G (by decide) rfl | exact lgR LG (by omega)) ?_
    | (refine T_cV (As := []) (d1 := 1) (pc1 := 7) (pc := 4) k_S_hush_4 rfl (by decide) (Nat.le_of_ble_eq_true rfl) rfl o_La_saidInAll l_S_190 rfl (by first | assumption | exact ga G (by decide) rfl | exact lgA LG (by omega)) rfl (c_La_saidInAll LG ok hL.2.1 ?_) <;> try dsimp only [psh])
    | refine T_istore_n (pc1 := 8) (pc := 7) k_S_hush_7 rfl (Nat.le_of_ble_eq_true rfl) ?_
    | refine T_iconst (v := (nI 0)) (pc1 := 9) (pc := 8) k_S_hush_8 rfl (by decide) ?_
    | refine T_istore_n (pc1 := 10) (pc := 9) k_S_hush_9 rfl (Nat.le_of_ble_eq_true rfl) ?_)
  exact loop n 0 I (by omega) fr_rf hL
theorem c_Wr_leastMinutes {a n tn fr to0 : Nat} {N : Row} {w : Int32} (G : GeoOK g) (LG : LandG g a) (ok : okL N n tn) (hL : LaR g I a N n tn) (hf : fr < 8) (ht : to0 < 8) (kk : ∀ J, fre ff I J → K (some (.int (nway (bst N n tn w fr to0)))) g J) : Cl 6 M_Wr_leastMinutes [.ref 63, .ref a, .int (nI fr), .int (nI to0), .int w] g I K := by
  show Rl 6 M_Wr_leastMinutes 0 [some (.ref 63), some (.ref a), some (.int (nI fr)), some (.int (nI to0)), some (.int w)] [] g I K
  obtain ⟨g1, g2, g3, g4, g5, g6, g7, g8, g9, g10, g11, g12, g13, g14⟩ := id LG
  have h14 := ok.2.1
  repeat' (first
    | ((first | refine T_aload_n (pc1 := 1) (pc := 0) k_Wr_leastMinutes_0 rfl rfl ?_ | refine T_aload_nN (pc1 := 1) (pc := 0) k_Wr_leastMinutes_0 rfl rfl ?_) <;> try ((first | refine T_aload_n (pc1 := 2) (pc := 1) k_Wr_leastMinutes_1 rfl rfl ?_ | refine T_aload_nN (pc1 := 2) (pc := 1) k_Wr_leastMinutes_1 rfl rfl ?_) <;> try (refine T_iload (pc1 := 4) (pc := 2) k_Wr_leastMinutes_2 rfl rfl ?_ <;> try ((refine T_cV (As := [_, _]) (d1 := 5) (pc1 := 7) (pc := 4) k_Wr_leastMinutes_4 rfl (by decide) (Nat.le_of_ble_eq_true rfl) rfl o_Wr_weighByMinutes l_Wr_113 rfl (by first | assumption | exact ga G (by decide) rfl | exact lgA LG (by omega)) rfl (c_Wr_weighByMinutes G LG ok hL.1 hL.2.1 (fun J hJ hJc => ?_)) <;> try dsimp only [psh])))))
    | refine T_aload_n (pc1 := 2) (pc := 1) k_Wr_leastMinutes_1 rfl rfl ?_
    | refine T_aload_nN (pc1 := 2) (pc := 1) k_Wr_leastMinutes_1 rfl rfl ?_
    | refine T_iload (pc1 := 4) (pc := 2) k_Wr_leastMinutes_2 rfl rfl ?_
    | (refine T_cV (As := [_, _]) (d1 := 5) (pc1 := 7) (pc := 4) k_Wr_leastMinutes_4 rfl (by decide) (Nat.le_of_ble_eq_true rfl) rfl o_Wr_weighByMinutes l_Wr_113 rfl (by first | assumption | exact ga G (by decide) rfl | exact lgA LG (by omega)) rfl (c_Wr_weighByMinutes G LG ok hL.1 hL.2.1 (fun J hJ hJc => ?_)) <;> try dsimp only [psh]))
  have LB2 := LBt_fr hL.2.1 h14 hJ (fun i => cf_l g14)
  repeat' (first
    | ((first | refine T_aload_n (pc1 := 8) (pc := 7) k_Wr_leastMinutes_7 rfl rfl ?_ | refine T_aload_nN (pc1 := 8) (pc := 7) k_Wr_leastMinutes_7 rfl rfl ?_) <;> try ((first | refine T_aload_n (pc1 := 9) (pc := 8) k_Wr_leastMinutes_8 rfl rfl ?_ | refine T_aload_nN (pc1 := 9) (pc := 8) k_Wr_leastMinutes_8 rfl rfl ?_) <;> try (refine T_iload_n (pc1 := 10) (pc := 9) k_Wr_leastMinutes_9 rfl rfl ?_ <;> try ((refine T_cV (As := [_, _]) (d1 := 2) (pc1 := 13) (pc := 10) k_Wr_leastMinutes_10 rfl (by decide) (Nat.le_of_ble_eq_true rfl) rfl o_Wr_measure l_Wr_41 rfl (by first | assumption | exact ga G (by decide) rfl | exact lgA LG (by omega)) rfl (c_Wr_measure (c := bcs N tn w) G LG ok LB2 ht hJc (fun b hb => bcs_le ok hb) (fun J2 hJ2 hD => ?_)) <;> try dsimp only [psh])))))
    | refine T_aload_n (pc1 := 9) (pc := 8) k_Wr_leastMinutes_8 rfl rfl ?_
    | refine T_aload_nN (pc1 := 9) (pc := 8) k_Wr_leastMinutes_8 rfl rfl ?_
    | refine T_iload_n (pc1 := 10) (pc := 9) k_Wr_leastMinutes_9 rfl rfl ?_
    | (refine T_cV (As := [_, _]) (d1 := 2) (pc1 := 13) (pc := 10) k_Wr_leastMinutes_10 rfl (by decide) (Nat.le_of_ble_eq_true rfl) rfl o_Wr_measure l_Wr_41 rfl (by first | assumption | exact ga G (by decide) rfl | exact lgA LG (by omega)) rfl (c_Wr_measure (c := bcs N tn w) G LG ok LB2 ht hJc (fun b hb => bcs_le ok hb) (fun J2 hJ2 hD => ?_)) <;> try dsimp only [psh]))
  have e : J2 65 fr = nI (bst N n tn w fr to0) := hD fr hf
  have hle := bst_le (fr := fr) (to0 := to0) (w := w) ok
  have kk := kk J2 (fr_tr (fr_mono hJ (fun i => cf_f)) (fr_x hJ2 (fun i hi => Or.inr (Or.inl (by simpa using hi)))))
  unfold nway at kk
  repeat' (first
    | ((first | refine T_aload_n (pc1 := 14) (pc := 13) k_Wr_leastMinutes_13 rfl rfl ?_ | refine T_aload_nN (pc1 := 14) (pc := 13) k_Wr_leastMinutes_13 rfl rfl ?_) <;> try (refine T_getR (pc1 := 17) (pc := 14) k_Wr_leastMinutes_14 rfl f_Wr_15 rfl (by first | assumption | exact ga G (by decide) rfl | exact lgA LG (by omega)) (by first | assumption | exact gr G (by decide) rfl | exact lgR LG (by omega)) ?_ <;> try (refine T_iload_n (pc1 := 18) (pc := 17) k_Wr_leastMinutes_17 rfl rfl ?_ <;> try ((first | refine T_ialdN (pc1 := 19) (pc := 18) k_Wr_leastMinutes_18 rfl (by first | assumption | exact ga G (by decide) rfl | exact lgA LG (by omega)) (by omega) (by omega) (by first | assumption | (simp (disch := omega) only [pI_eq, pI_row, pI_col, va_up_self, va_up_ne, ne_eq, not_false_eq_true] <;> rfl) | rfl) ?_ | refine T_iald (pc1 := 19) (pc := 18) k_Wr_leastMinutes_18 rfl (by first | assumption | exact ga G (by decide) rfl | exact lgA LG (by omega)) (by assumption) ?_) <;> try (refine T_ldc (v := (nI 1000000)) (pc1 := 21) (pc := 19) k_Wr_leastMinutes_19 rfl c_Wr_106 ?_ <;> try ((first | (with_reducible refine T_icmp_ltN (tgt := 29) (pc1 := 24) (pc := 21) k_Wr_leastMinutes_21 (by decide) (by decide) (by omega) (by omega) (fun hc => ?_) (fun hc => ?_) <;> first | (exfalso; omega) | skip) | refine T_icmp_lt_t (tgt := 29) (pc := 21) k_Wr_leastMinutes_21 rfl (by decide) ?_ | refine T_icmp_lt_f (tgt := 29) (pc1 := 24) (pc := 21) k_Wr_leastMinutes_21 rfl rfl (by decide) ?_ | refine T_icmp_lt (tgt := 29) (pc1 := 24) (pc := 21) k_Wr_leastMinutes_21 rfl rfl (fun hc => ?_) (fun hc => ?_))))))))
    | (refine T_ldc (v := (-1000000005)) (pc1 := 26) (pc := 24) k_Wr_leastMinutes_24 rfl c_Wr_49 ?_ <;> try (refine T_goto (tgt := 35) (pc := 26) k_Wr_leastMinutes_26 rfl ?_))
    | ((first | refine T_aload_n (pc1 := 30) (pc := 29) k_Wr_leastMinutes_29 rfl rfl ?_ | refine T_aload_nN (pc1 := 30) (pc := 29) k_Wr_leastMinutes_29 rfl rfl ?_) <;> try (refine T_getR (pc1 := 33) (pc := 30) k_Wr_leastMinutes_30 rfl f_Wr_15 rfl (by first | assumption | exact ga G (by decide) rfl | exact lgA LG (by omega)) (by first | assumption | exact gr G (by decide) rfl | exact lgR LG (by omega)) ?_ <;> try (refine T_iload_n (pc1 := 34) (pc := 33) k_Wr_leastMinutes_33 rfl rfl ?_ <;> try ((first | refine T_ialdN (pc1 := 35) (pc := 34) k_Wr_leastMinutes_34 rfl (by first | assumption | exact ga G (by decide) rfl | exact lgA LG (by omega)) (by omega) (by omega) (by first | assumption | (simp (disch := omega) only [pI_eq, pI_row, pI_col, va_up_self, va_up_ne, ne_eq, not_false_eq_true] <;> rfl) | rfl) ?_ | refine T_iald (pc1 := 35) (pc := 34) k_Wr_leastMinutes_34 rfl (by first | assumption | exact ga G (by decide) rfl | exact lgA LG (by omega)) (by assumption) ?_)))))
    | (refine T_retI (pc := 35) k_Wr_leastMinutes_35 rfl (by first | rfl | decide | assumption) ?_)
    | refine T_getR (pc1 := 17) (pc := 14) k_Wr_leastMinutes_14 rfl f_Wr_15 rfl (by first | assumption | exact ga G (by decide) rfl | exact lgA LG (by omega)) (by first | assumption | exact gr G (by decide) rfl | exact lgR LG (by omega)) ?_
    | refine T_iload_n (pc1 := 18) (pc := 17) k_Wr_leastMinutes_17 rfl rfl ?_
    | refine T_ialdN (pc1 := 19) (pc := 18) k_Wr_leastMinutes_18 rfl (by first | assumption | exact ga G (by decide) rfl | exact lgA LG (by omega)) (by omega) (by omega) (by first | assumption | (simp (disch := omega) only [pI_eq, pI_row, pI_col, va_up_self, va_up_ne, ne_eq, not_false_eq_true] <;> rfl) | rfl) ?_
    | refine T_iald (pc1 := 19) (pc := 18) k_Wr_leastMinutes_18 rfl (by first | assumption | exact ga G (by decide) rfl | exact lgA LG (by omega)) (by assumption) ?_
    | refine T_ldc (v := (nI 1000000)) (pc1 := 21) (pc := 19) k_Wr_leastMinutes_19 rfl c_Wr_106 ?_
    | (with_reducible refine T_icmp_ltN (tgt := 29) (pc1 := 24) (pc := 21) k_Wr_leastMinutes_21 (by decide) (by decide) (by omega) (by omega) (fun hc => ?_) (fun hc => ?_) <;> first | (exfalso; omega) | skip)
    | refine T_icmp_lt_t (tgt := 29) (pc := 21) k_Wr_leastMinutes_21 rfl (by decide) ?_
    | refine T_icmp_lt_f (tgt := 29) (pc1 := 24) (pc := 21) k_Wr_leastMinutes_21 rfl rfl (by decide) ?_
    | refine T_icmp_lt (tgt := 29) (pc1 := 24) (pc := 21) k_Wr_leastMinutes_21 rfl rfl (fun hc => ?_) (fun hc => ?_)
    | refine T_goto (tgt := 35) (pc := 26) k_Wr_leastMinutes_26 rfl ?_
    | refine T_getR (pc1 := 33) (pc := 30) k_Wr_leastMinutes_30 rfl f_Wr_15 rfl (by first | assumption | exact ga G (by decide) rfl | exact lgA LG (by omega)) (by first | assumption | exact gr G (by decide) rfl | exact lgR LG (by omega)) ?_
    | refine T_iload_n (pc1 := 34) (pc := 33) k_Wr_leastMinutes_33 rfl rfl ?_
    | refine T_ialdN (pc1 := 35) (pc := 34) k_Wr_leastMinutes_34 rfl (by first | assumption | exact ga G (by decide) rfl | exact lgA LG (by omega)) (by omega) (by omega) (by first | assumption | (simp (disch := omega) only [pI_eq, pI_row, pI_col, va_up_self, va_up_ne, ne_eq, not_false_eq_true] <;> rfl) | rfl) ?_
    | refine T_iald (pc1 := 35) (pc := 34) k_Wr_leastMinutes_34 rfl (by first | assumption | exact ga G (by decide) rfl | exact lgA LG (by omega)) (by assumption) ?_)
  all_goals first | (rw [if_neg (by omega)] at kk; exact kk) | (rw [if_pos (by omega)] at kk; exact kk)
theorem c_S_best {N : Row} {n tn : Nat} {f t : Int32} (G : GeoOK g) (ok : okL N n tn) (hL : LaR g I 1 N n tn) (kk : ∀ J r, fre ff I J → r = bestA N n tn f t → K (some (.int r)) g J) : Cl 7 M_S_best [.ref 0, .int f, .int t] g I K := by
  show Rl 7 M_S_best 0 [some (.ref 0), some (.int f), some (.int t)] [] g I K
  have LG := land_1 G
  by_cases hok : rg 8 f ∧ rg 8 t
  · rw [bestA, if_pos hok] at kk
    obtain ⟨a, ha, rfl⟩ := rg_of hok.1 (by omega)
    obtain ⟨b, hb, rfl⟩ := rg_of hok.2 (by omega)
    rw [nI_clamp (by omega), nI_clamp (by omega), ← bst_none ok.2.1] at kk
    repeat' (first
      | (refine T_iload_n (pc1 := 1) (pc := 0) k_S_best_0 rfl rfl ?_ <;> try (refine T_iload_n (pc1 := 2) (pc := 1) k_S_best_1 rfl rfl ?_ <;> try ((refine T_cS (As := [_, _]) (d1 := 3) (pc1 := 5) (pc := 2) k_S_best_2 rfl (by decide) (Nat.le_of_ble_eq_true rfl) rfl o_S_areSpots l_S_73 rfl (c_S_areSpots (fun hw => ?_) (fun hw => ?_)) <;> try dsimp only [psh]) <;> try ((first | (with_reducible refine T_if_neN (tgt := 11) (pc1 := 8) (pc := 5) k_S_best_5 (by decide) (by decide) (by omega) (fun hc => ?_) (fun hc => ?_) <;> first | (exfalso; omega) | skip) | refine T_if_ne_t (tgt := 11) (pc := 5) k_S_best_5 rfl (by decide) ?_ | refine T_if_ne_f (tgt := 11) (pc1 := 8) (pc := 5) k_S_best_5 rfl rfl (by decide) ?_ | refine T_if_ne (tgt := 11) (pc1 := 8) (pc := 5) k_S_best_5 rfl rfl (fun hc => ?_) (fun hc => ?_))))))
      | (refine T_ldc (v := (-1000000001)) (pc1 := 10) (pc := 8) k_S_best_8 rfl c_S_81 ?_ <;> try (refine T_retI (pc := 10) k_S_best_10 rfl (by first | rfl | decide | assumption) ?_))
      | ((first | refine T_aload_n (pc1 := 12) (pc := 11) k_S_best_11 rfl rfl ?_ | refine T_aload_nN (pc1 := 12) (pc := 11) k_S_best_11 rfl rfl ?_) <;> try (refine T_getR (pc1 := 15) (pc := 12) k_S_best_12 rfl f_S_36 rfl (by first | assumption | exact ga G (by decide) rfl | exact lgA LG (by omega)) (by first | assumption | exact gr G (by decide) rfl | exact lgR LG (by omega)) ?_ <;> try ((first | refine T_aload_n (pc1 := 16) (pc := 15) k_S_best_15 rfl rfl ?_ | refine T_aload_nN (pc1 := 16) (pc := 15) k_S_best_15 rfl rfl ?_) <;> try (refine T_getR (pc1 := 19) (pc := 16) k_S_best_16 rfl f_S_10 rfl (by first | assumption | exact ga G (by decide) rfl | exact lgA LG (by omega)) (by first | assumption | exact gr G (by decide) rfl | exact lgR LG (by omega)) ?_ <;> try (refine T_iload_n (pc1 := 20) (pc := 19) k_S_best_19 rfl rfl ?_ <;> try (refine T_iload_n (pc1 := 21) (pc := 20) k_S_best_20 rfl rfl ?_ <;> try (refine T_ldc (v := (-1000000005)) (pc1 := 23) (pc := 21) k_S_best_21 rfl c_S_148 ?_ <;> try ((refine T_cV (As := [_, _, _, _]) (d1 := 6) (pc1 := 26) (pc := 23) k_S_best_23 rfl (by decide) (Nat.le_of_ble_eq_true rfl) rfl o_Wr_leastMinutes l_S_193 rfl (by first | assumption | exact ga G (by decide) rfl | exact lgA LG (by omega)) rfl (c_Wr_leastMinutes G LG ok hL ha hb (fun J hJ => ?_)) <;> try dsimp only [psh]) <;> try (refine T_retI (pc := 26) k_S_best_26 rfl (by first | rfl | decide | assumption) ?_)))))))))
      | refine T_iload_n (pc1 := 2) (pc := 1) k_S_best_1 rfl rfl ?_
      | (refine T_cS (As := [_, _]) (d1 := 3) (pc1 := 5) (pc := 2) k_S_best_2 rfl (by decide) (Nat.le_of_ble_eq_true rfl) rfl o_S_areSpots l_S_73 rfl (c_S_areSpots (fun hw => ?_) (fun hw => ?_)) <;> try dsimp only [psh])
      | (with_reducible refine T_if_neN (tgt := 11) (pc1 := 8) (pc := 5) k_S_best_5 (by decide) (by decide) (by omega) (fun hc => ?_) (fun hc => ?_) <;> first | (exfalso; omega) | skip)
      | refine T_if_ne_t (tgt := 11) (pc := 5) k_S_best_5 rfl (by decide) ?_
      | refine T_if_ne_f (tgt := 11) (pc1 := 8) (pc := 5) k_S_best_5 rfl rfl (by decide) ?_
      | refine T_if_ne (tgt := 11) (pc1 := 8) (pc := 5) k_S_best_5 rfl rfl (fun hc => ?_) (fun hc => ?_)
      | refine T_retI (pc := 10) k_S_best_10 rfl (by first | rfl | decide | assumption) ?_
      | refine T_getR (pc1 := 15) (pc := 12) k_S_best_12 rfl f_S_36 rfl (by first | assumption | exact ga G (by decide) rfl | exact lgA LG (by omega)) (by first | assumption | exact gr G (by decide) rfl | exact lgR LG (by omega)) ?_
      | refine T_aload_n (pc1 := 16) (pc := 15) k_S_best_15 rfl rfl ?_
      | refine T_aload_nN (pc1 := 16) (pc := 15) k_S_best_15 rfl rfl ?_
      | refine T_getR (pc1 := 19) (pc := 16) k_S_best_16 rfl f_S_10 rfl (by first | assumption | exact ga G (by decide) rfl | exact lgA LG (by omega)) (by first | assumption | exact gr G (by decide) rfl | exact lgR LG (by omega)) ?_
      | refine T_iload_n (pc1 := 20) (pc := 19) k_S_best_19 rfl rfl ?_
      | refine T_iload_n (pc1 := 21) (pc := 20) k_S_best_20 rfl rfl ?_
      | refine T_ldc (v := (-1000000005)) (pc1 := 23) (pc := 21) k_S_best_21 rfl c_S_148 ?_
      | (refine T_cV (As := [_, _, _, _]) (d1 := 6) (pc1 := 26) (pc := 23) k_S_best_23 rfl (by decide) (Nat.le_of_ble_eq_true rfl) rfl o_Wr_leastMinutes l_S_193 rfl (by first | assumption | exact ga G (by decide) rfl | exact lgA LG (by omega)) rfl (c_Wr_leastMinutes G LG ok hL ha hb (fun J hJ => ?_)) <;> try dsimp only [psh])
      | refine T_retI (pc := 26) k_S_best_26 rfl (by first | rfl | decide | assumption) ?_)
    all_goals first | (exfalso; exact hw hok) | exact kk J _ hJ rfl
  · rw [bestA, if_neg hok] at kk
    have kk := kk I _ fr_rf rfl
    repeat' (first
      | (refine T_iload_n (pc1 := 1) (pc := 0) k_S_best_0 rfl rfl ?_ <;> try (refine T_iload_n (pc1 := 2) (pc := 1) k_S_best_1 rfl rfl ?_ <;> try ((refine T_cS (As := [_, _]) (d1 := 3) (pc1 := 5) (pc := 2) k_S_best_2 rfl (by decide) (Nat.le_of_ble_eq_true rfl) rfl o_S_areSpots l_S_73 rfl (c_S_areSpots (fun hw => ?_) (fun hw => ?_)) <;> try dsimp only [psh]) <;> try ((first | (with_reducible refine T_if_neN (tgt := 11) (pc1 := 8) (pc := 5) k_S_best_5 (by decide) (by decide) (by omega) (fun hc => ?_) (fun hc => ?_) <;> first | (exfalso; omega) | skip) | refine T_if_ne_t (tgt := 11) (pc := 5) k_S_best_5 rfl (by decide) ?_ | refine T_if_ne_f (tgt := 11) (pc1 := 8) (pc := 5) k_S_best_5 rfl rfl (by decide) ?_ | refine T_if_ne (tgt := 11) (pc1 := 8) (pc := 5) k_S_best_5 rfl rfl (fun hc => ?_) (fun hc => ?_))))))
      | (refine T_ldc (v := (-1000000001)) (pc1 := 10) (pc := 8) k_S_best_8 rfl c_S_81 ?_ <;> try (refine T_retI (pc := 10) k_S_best_10 rfl (by first | rfl | decide | assumption) ?_))
      | refine T_iload_n (pc1 := 2) (pc := 1) k_S_best_1 rfl rfl ?_
      | (refine T_cS (As := [_, _]) (d1 := 3) (pc1 := 5) (pc := 2) k_S_best_2 rfl (by decide) (Nat.le_of_ble_eq_true rfl) rfl o_S_areSpots l_S_73 rfl (c_S_areSpots (fun hw => ?_) (fun hw => ?_)) <;> try dsimp only [psh])
      | (with_reducible refine T_if_neN (tgt := 11) (pc1 := 8) (pc := 5) k_S_best_5 (by decide) (by decide) (by omega) (fun hc => ?_) (fun hc => ?_) <;> first | (exfalso; omega) | skip)
      | refine T_if_ne_t (tgt := 11) (pc := 5) k_S_best_5 rfl (by decide) ?_
      | refine T_if_ne_f (tgt := 11) (pc1 := 8) (pc := 5) k_S_best_5 rfl rfl (by decide) ?_
      | refine T_if_ne (tgt := 11) (pc1 := 8) (pc := 5) k_S_best_5 rfl rfl (fun hc => ?_) (fun hc => ?_)
      | refine T_retI (pc := 10) k_S_best_10 rfl (by first | rfl | decide | assumption) ?_)
    all_goals first | exact kk | contradiction
/-- what thinking ahead may touch -/
def tf (i : Nat) : Prop := wf1 41 i ∨ i = 61 ∨ i = 62
theorem tf_l {i : Nat} (h : tf i) : ¬ lnd 1 i := by unfold tf wf1 lnd stk at h; unfold lnd; omega
theorem tf_s {i : Nat} (h : tf i) : i < 121 ∨ stk i := by
  unfold tf at h
  rcases h with h | h | h
  · exact wf1_s (by decide) h
  · exact Or.inl (by omega)
  · exact Or.inl (by omega)
/-- a copy of the land to think in -/
theorem c_think {N : Row} {n tn c : Nat} (G : GeoOK g) (LC : LandG g c) (hc : c + 20 ≤ 41) (ok : okL N n tn) (okw : okW N) (hL : LaR g I c N n tn) (kk : ∀ g' J, GeoOK g' → GS 43 g g' → fre (wf1 41) I J → LaR g' J 41 N n tn → K none g' J) : Cl 2 M_La_takeFrom [.ref 41, .ref c] g I K :=
  c_La_takeFrom (land_41 G) LC (Or.inr hc) ok okw hL (fun g' J hg hJ hJL => kk g' J (GS_G hg (Or.inr (Or.inr rfl)) G) hg (fr_mono hJ (fun i hi => Or.inl hi)) hJL)
theorem c_S_loses {N : Row} {n tn : Nat} {f t : Int32} (G : GeoOK g) (ok : okL N n tn) (okw : okW N) (hL : LaR g I 1 N n tn) (kk : ∀ g' J r, GeoOK g' → GS 43 g g' → fre tf I J → r = losesA N n tn f t → K (some (.int r)) g' J) : Cl 7 M_S_loses [.ref 0, .int f, .int t] g I K := by
  show Rl 7 M_S_loses 0 [some (.ref 0), some (.int f), some (.int t), none] [] g I K
  have LG := land_1 G
  have h14 := ok.2.1
  by_cases hok : rg 8 f ∧ rg 8 t
  · rw [losesA, if_pos hok] at kk
    obtain ⟨a, ha, rfl⟩ := rg_of hok.1 (by omega)
    obtain ⟨b, hb, rfl⟩ := rg_of hok.2 (by omega)
    rw [nI_clamp (by omega), nI_clamp (by omega), ← bst_none ok.2.1] at kk
    have hle := bst_le (fr := a) (to0 := b) (w := cNONE) ok
    repeat' (first
      | (refine T_iload_n (pc1 := 1) (pc := 0) k_S_loses_0 rfl rfl ?_ <;> try (refine T_iload_n (pc1 := 2) (pc := 1) k_S_loses_1 rfl rfl ?_ <;> try ((refine T_cS (As := [_, _]) (d1 := 3) (pc1 := 5) (pc := 2) k_S_loses_2 rfl (by decide) (Nat.le_of_ble_eq_true rfl) rfl o_S_areSpots l_S_73 rfl (c_S_areSpots (fun hw => ?_) (fun hw => ?_)) <;> try dsimp only [psh]) <;> try ((first | (with_reducible refine T_if_neN (tgt := 11) (pc1 := 8) (pc := 5) k_S_loses_5 (by decide) (by decide) (by omega) (fun hc => ?_) (fun hc => ?_) <;> first | (exfalso; omega) | skip) | refine T_if_ne_t (tgt := 11) (pc := 5) k_S_loses_5 rfl (by decide) ?_ | refine T_if_ne_f (tgt := 11) (pc1 := 8) (pc := 5) k_S_loses_5 rfl rfl (by decide) ?_ | refine T_if_ne (tgt := 11) (pc1 := 8) (pc := 5) k_S_loses_5 rfl rfl (fun hc => ?_) (fun hc => ?_))))))
      | (refine T_ldc (v := (-1000000001)) (pc1 := 10) (pc := 8) k_S_loses_8 rfl c_S_81 ?_ <;> try (refine T_retI (pc := 10) k_S_loses_10 rfl (by first | rfl | decide | assumption) ?_))
      | ((first | refine T_aload_n (pc1 := 12) (pc := 11) k_S_loses_11 rfl rfl ?_ | refine T_aload_nN (pc1 := 12) (pc := 11) k_S_loses_11 rfl rfl ?_) <;> try (refine T_getR (pc1 := 15) (pc := 12) k_S_loses_12 rfl f_S_36 rfl (by first | assumption | exact ga G (by decide) rfl | exact lgA LG (by omega)) (by first | assumption | exact gr G (by decide) rfl | exact lgR LG (by omega)) ?_ <;> try ((first | refine T_aload_n (pc1 := 16) (pc := 15) k_S_loses_15 rfl rfl ?_ | refine T_aload_nN (pc1 := 16) (pc := 15) k_S_loses_15 rfl rfl ?_) <;> try (refine T_getR (pc1 := 19) (pc := 16) k_S_loses_16 rfl f_S_10 rfl (by first | assumption | exact ga G (by decide) rfl | exact lgA LG (by omega)) (by first | assumption | exact gr G (by decide) rfl | exact lgR LG (by omega)) ?_ <;> try (refine T_iload_n (pc1 := 20) (pc := 19) k_S_loses_19 rfl rfl ?_ <;> try (refine T_iload_n (pc1 := 21) (pc := 20) k_S_loses_20 rfl rfl ?_ <;> try (refine T_ldc (v := (-1000000005)) (pc1 := 23) (pc := 21) k_S_loses_21 rfl c_S_148 ?_ <;> try ((refine T_cV (As := [_, _, _, _]) (d1 := 6) (pc1 := 26) (pc := 23) k_S_loses_23 rfl (by decide) (Nat.le_of_ble_eq_true rfl) rfl o_Wr_leastMinutes l_S_193 rfl (by first | assumption | exact ga G (by decide) rfl | exact lgA LG (by omega)) rfl (c_Wr_leastMinutes G LG ok hL ha hb (fun J hJ => ?_)) <;> try dsimp only [psh])))))))))
      | refine T_iload_n (pc1 := 2) (pc := 1) k_S_loses_1 rfl rfl ?_
      | (refine T_cS (As := [_, _]) (d1 := 3) (pc1 := 5) (pc := 2) k_S_loses_2 rfl (by decide) (Nat.le_of_ble_eq_true rfl) rfl o_S_areSpots l_S_73 rfl (c_S_areSpots (fun hw => ?_) (fun hw => ?_)) <;> try dsimp only [psh])
      | (with_reducible refine T_if_neN (tgt := 11) (pc1 := 8) (pc := 5) k_S_loses_5 (by decide) (by decide) (by omega) (fun hc => ?_) (fun hc => ?_) <;> first | (exfalso; omega) | skip)
      | refine T_if_ne_t (tgt := 11) (pc := 5) k_S_loses_5 rfl (by decide) ?_
      | refine T_if_ne_f (tgt := 11) (pc1 := 8) (pc := 5) k_S_loses_5 rfl rfl (by decide) ?_
      | refine T_if_ne (tgt := 11) (pc1 := 8) (pc := 5) k_S_loses_5 rfl rfl (fun hc => ?_) (fun hc => ?_)
      | refine T_retI (pc := 10) k_S_loses_10 rfl (by first | rfl | decide | assumption) ?_
      | refine T_getR (pc1 := 15) (pc := 12) k_S_loses_12 rfl f_S_36 rfl (by first | assumption | exact ga G (by decide) rfl | exact lgA LG (by omega)) (by first | assumption | exact gr G (by decide) rfl | exact lgR LG (by omega)) ?_
      | refine T_aload_n (pc1 := 16) (pc := 15) k_S_loses_15 rfl rfl ?_
      | refine T_aload_nN (pc1 := 16) (pc := 15) k_S_loses_15 rfl rfl ?_
      | refine T_getR (pc1 := 19) (pc := 16) k_S_loses_16 rfl f_S_10 rfl (by first | assumption | exact ga G (by decide) rfl | exact lgA LG (by omega)) (by first | assumption | exact gr G (by decide) rfl | exact lgR LG (by omega)) ?_
      | refine T_iload_n (pc1 := 20) (pc := 19) k_S_loses_19 rfl rfl ?_
      | refine T_iload_n (pc1 := 21) (pc := 20) k_S_loses_20 rfl rfl ?_
      | refine T_ldc (v := (-1000000005)) (pc1 := 23) (pc := 21) k_S_loses_21 rfl c_S_148 ?_
      | (refine T_cV (As := [_, _, _, _]) (d1 := 6) (pc1 := 26) (pc := 23) k_S_loses_23 rfl (by decide) (Nat.le_of_ble_eq_true rfl) rfl o_Wr_leastMinutes l_S_193 rfl (by first | assumption | exact ga G (by decide) rfl | exact lgA LG (by omega)) rfl (c_Wr_leastMinutes G LG ok hL ha hb (fun J hJ => ?_)) <;> try dsimp only [psh]))
    all_goals try (exfalso; exact hw hok)
    have hL2 := LR_fr hL h14 GS_rf (r := 43) (by decide) (by decide) hJ (fun i => ff_l (by decide)) (fun i => ff_s)
    by_cases hno : 1000000 ≤ bst N n tn cNONE a b
    · rw [if_pos hno] at kk
      rw [nway, if_pos hno]
      repeat' (first
        | (refine T_istore_n (pc1 := 27) (pc := 26) k_S_loses_26 rfl (Nat.le_of_ble_eq_true rfl) ?_ <;> try (refine T_iload_n (pc1 := 28) (pc := 27) k_S_loses_27 rfl rfl ?_ <;> try (refine T_ldc (v := (-1000000005)) (pc1 := 30) (pc := 28) k_S_loses_28 rfl c_S_148 ?_ <;> try ((first | (with_reducible refine T_icmp_neN (tgt := 36) (pc1 := 33) (pc := 30) k_S_loses_30 (by decide) (by decide) (by omega) (by omega) (fun hc => ?_) (fun hc => ?_) <;> first | (exfalso; omega) | skip) | refine T_icmp_ne_t (tgt := 36) (pc := 30) k_S_loses_30 rfl (by decide) ?_ | refine T_icmp_ne_f (tgt := 36) (pc1 := 33) (pc := 30) k_S_loses_30 rfl rfl (by decide) ?_ | refine T_icmp_ne (tgt := 36) (pc1 := 33) (pc := 30) k_S_loses_30 rfl rfl (fun hc => ?_) (fun hc => ?_))))))
        | (refine T_ldc (v := (-1000000005)) (pc1 := 35) (pc := 33) k_S_loses_33 rfl c_S_148 ?_ <;> try (refine T_retI (pc := 35) k_S_loses_35 rfl (by first | rfl | decide | assumption) ?_))
        | refine T_iload_n (pc1 := 28) (pc := 27) k_S_loses_27 rfl rfl ?_
        | refine T_ldc (v := (-1000000005)) (pc1 := 30) (pc := 28) k_S_loses_28 rfl c_S_148 ?_
        | (with_reducible refine T_icmp_neN (tgt := 36) (pc1 := 33) (pc := 30) k_S_loses_30 (by decide) (by decide) (by omega) (by omega) (fun hc => ?_) (fun hc => ?_) <;> first | (exfalso; omega) | skip)
        | refine T_icmp_ne_t (tgt := 36) (pc := 30) k_S_loses_30 rfl (by decide) ?_
        | refine T_icmp_ne_f (tgt := 36) (pc1 := 33) (pc := 30) k_S_loses_30 rfl rfl (by decide) ?_
        | refine T_icmp_ne (tgt := 36) (pc1 := 33) (pc := 30) k_S_loses_30 rfl rfl (fun hc => ?_) (fun hc => ?_)
        | refine T_retI (pc := 35) k_S_loses_35 rfl (by first | rfl | decide | assumption) ?_)
      exact kk g J _ G GS_rf (fr_mono hJ (fun i hi => Or.inl (ff_w hi))) rfl
    · rw [if_neg hno] at kk
      rw [nway, if_neg hno]
      have hlt : bst N n tn cNONE a b < 2147483648 := by omega
      repeat' (first
        | (refine T_istore_n (pc1 := 27) (pc := 26) k_S_loses_26 rfl (Nat.le_of_ble_eq_true rfl) ?_ <;> try (refine T_iload_n (pc1 := 28) (pc := 27) k_S_loses_27 rfl rfl ?_ <;> try (refine T_ldc (v := (-1000000005)) (pc1 := 30) (pc := 28) k_S_loses_28 rfl c_S_148 ?_ <;> try (refine T_icmp_ne_t (tgt := 36) (pc := 30) k_S_loses_30 rfl (cne_nI hlt) ?_))))
        | (refine T_ldc (v := (-1000000005)) (pc1 := 35) (pc := 33) k_S_loses_33 rfl c_S_148 ?_ <;> try (refine T_retI (pc := 35) k_S_loses_35 rfl (by first | rfl | decide | assumption) ?_))
        | ((first | refine T_aload_n (pc1 := 37) (pc := 36) k_S_loses_36 rfl rfl ?_ | refine T_aload_nN (pc1 := 37) (pc := 36) k_S_loses_36 rfl rfl ?_) <;> try (refine T_getR (pc1 := 40) (pc := 37) k_S_loses_37 rfl f_S_23 rfl (by first | assumption | exact ga G (by decide) rfl | exact lgA LG (by omega)) (by first | assumption | exact gr G (by decide) rfl | exact lgR LG (by omega)) ?_ <;> try ((first | refine T_aload_n (pc1 := 41) (pc := 40) k_S_loses_40 rfl rfl ?_ | refine T_aload_nN (pc1 := 41) (pc := 40) k_S_loses_40 rfl rfl ?_) <;> try (refine T_getR (pc1 := 44) (pc := 41) k_S_loses_41 rfl f_S_10 rfl (by first | assumption | exact ga G (by decide) rfl | exact lgA LG (by omega)) (by first | assumption | exact gr G (by decide) rfl | exact lgR LG (by omega)) ?_ <;> try ((refine T_cV (As := [_]) (d1 := 2) (pc1 := 47) (pc := 44) k_S_loses_44 rfl (by decide) (Nat.le_of_ble_eq_true rfl) rfl o_La_takeFrom l_S_197 rfl (by first | assumption | exact ga G (by decide) rfl | exact lgA LG (by omega)) rfl (c_think G LG (by decide) ok okw hL2 (fun g' J2 G hg hJ2 hJ2L => ?_)) <;> try dsimp only [psh]))))))
        | refine T_iload_n (pc1 := 28) (pc := 27) k_S_loses_27 rfl rfl ?_
        | refine T_ldc (v := (-1000000005)) (pc1 := 30) (pc := 28) k_S_loses_28 rfl c_S_148 ?_
        | refine T_icmp_ne_t (tgt := 36) (pc := 30) k_S_loses_30 rfl (cne_nI hlt) ?_
        | refine T_retI (pc := 35) k_S_loses_35 rfl (by first | rfl | decide | assumption) ?_
        | refine T_getR (pc1 := 40) (pc := 37) k_S_loses_37 rfl f_S_23 rfl (by first | assumption | exact ga G (by decide) rfl | exact lgA LG (by omega)) (by first | assumption | exact gr G (by decide) rfl | exact lgR LG (by omega)) ?_
        | refine T_aload_n (pc1 := 41) (pc := 40) k_S_loses_40 rfl rfl ?_
        | refine T_aload_nN (pc1 := 41) (pc := 40) k_S_loses_40 rfl rfl ?_
        | refine T_getR (pc1 := 44) (pc := 41) k_S_loses_41 rfl f_S_10 rfl (by first | assumption | exact ga G (by decide) rfl | exact lgA LG (by omega)) (by first | assumption | exact gr G (by decide) rfl | exact lgR LG (by omega)) ?_
        | (refine T_cV (As := [_]) (d1 := 2) (pc1 := 47) (pc := 44) k_S_loses_44 rfl (by decide) (Nat.le_of_ble_eq_true rfl) rfl o_La_takeFrom l_S_197 rfl (by first | assumption | exact ga G (by decide) rfl | exact lgA LG (by omega)) rfl (c_think G LG (by decide) ok okw hL2 (fun g' J2 G hg hJ2 hJ2L => ?_)) <;> try dsimp only [psh]))
      repeat' (first
        | ((first | refine T_aload_n (pc1 := 48) (pc := 47) k_S_loses_47 rfl rfl ?_ | refine T_aload_nN (pc1 := 48) (pc := 47) k_S_loses_47 rfl rfl ?_) <;> try (refine T_getR (pc1 := 51) (pc := 48) k_S_loses_48 rfl f_S_36 rfl (by first | assumption | exact ga G (by decide) rfl | exact lgA LG (by omega)) (by first | assumption | exact gr G (by decide) rfl | exact lgR LG (by omega)) ?_ <;> try ((first | refine T_aload_n (pc1 := 52) (pc := 51) k_S_loses_51 rfl rfl ?_ | refine T_aload_nN (pc1 := 52) (pc := 51) k_S_loses_51 rfl rfl ?_) <;> try (refine T_getR (pc1 := 55) (pc := 52) k_S_loses_52 rfl f_S_23 rfl (by first | assumption | exact ga G (by decide) rfl | exact lgA LG (by omega)) (by first | assumption | exact gr G (by decide) rfl | exact lgR LG (by omega)) ?_ <;> try (refine T_iload_n (pc1 := 56) (pc := 55) k_S_loses_55 rfl rfl ?_ <;> try (refine T_iload_n (pc1 := 57) (pc := 56) k_S_loses_56 rfl rfl ?_ <;> try ((refine T_cV (As := [_, _, _]) (d1 := 6) (pc1 := 60) (pc := 57) k_S_loses_57 rfl (by decide) (Nat.le_of_ble_eq_true rfl) rfl o_Wr_go l_S_164 rfl (by first | assumption | exact ga G (by decide) rfl | exact lgA LG (by omega)) rfl (c_Wr_go G (land_41 G) ok hJ2L ha hb (fun J3 hJ3 hJ3L => ?_)) <;> try dsimp only [psh]) <;> try (refine T_iload_n (pc1 := 61) (pc := 60) k_S_loses_60 rfl rfl ?_ <;> try (refine T_isub (pc1 := 62) (pc := 61) k_S_loses_61 rfl ?_ <;> try (refine T_retI (pc := 62) k_S_loses_62 rfl (by first | rfl | decide | assumption) ?_))))))))))
        | refine T_getR (pc1 := 51) (pc := 48) k_S_loses_48 rfl f_S_36 rfl (by first | assumption | exact ga G (by decide) rfl | exact lgA LG (by omega)) (by first | assumption | exact gr G (by decide) rfl | exact lgR LG (by omega)) ?_
        | refine T_aload_n (pc1 := 52) (pc := 51) k_S_loses_51 rfl rfl ?_
        | refine T_aload_nN (pc1 := 52) (pc := 51) k_S_loses_51 rfl rfl ?_
        | refine T_getR (pc1 := 55) (pc := 52) k_S_loses_52 rfl f_S_23 rfl (by first | assumption | exact ga G (by decide) rfl | exact lgA LG (by omega)) (by first | assumption | exact gr G (by decide) rfl | exact lgR LG (by omega)) ?_
        | refine T_iload_n (pc1 := 56) (pc := 55) k_S_loses_55 rfl rfl ?_
        | refine T_iload_n (pc1 := 57) (pc := 56) k_S_loses_56 rfl rfl ?_
        | (refine T_cV (As := [_, _, _]) (d1 := 6) (pc1 := 60) (pc := 57) k_S_loses_57 rfl (by decide) (Nat.le_of_ble_eq_true rfl) rfl o_Wr_go l_S_164 rfl (by first | assumption | exact ga G (by decide) rfl | exact lgA LG (by omega)) rfl (c_Wr_go G (land_41 G) ok hJ2L ha hb (fun J3 hJ3 hJ3L => ?_)) <;> try dsimp only [psh])
        | refine T_iload_n (pc1 := 61) (pc := 60) k_S_loses_60 rfl rfl ?_
        | refine T_isub (pc1 := 62) (pc := 61) k_S_loses_61 rfl ?_
        | refine T_retI (pc := 62) k_S_loses_62 rfl (by first | rfl | decide | assumption) ?_)
      exact kk g' J3 _ G hg (fr_tr (fr_mono hJ (fun i hi => Or.inl (ff_w hi))) (fr_tr (fr_mono hJ2 (fun i hi => Or.inl hi)) (fr_mono hJ3 (fun i hi => Or.inl hi)))) rfl
  · rw [losesA, if_neg hok] at kk
    have kk := kk g I _ G GS_rf fr_rf rfl
    repeat' (first
      | (refine T_iload_n (pc1 := 1) (pc := 0) k_S_loses_0 rfl rfl ?_ <;> try (refine T_iload_n (pc1 := 2) (pc := 1) k_S_loses_1 rfl rfl ?_ <;> try ((refine T_cS (As := [_, _]) (d1 := 3) (pc1 := 5) (pc := 2) k_S_loses_2 rfl (by decide) (Nat.le_of_ble_eq_true rfl) rfl o_S_areSpots l_S_73 rfl (c_S_areSpots (fun hw => ?_) (fun hw => ?_)) <;> try dsimp only [psh]) <;> try ((first | (with_reducible refine T_if_neN (tgt := 11) (pc1 := 8) (pc := 5) k_S_loses_5 (by decide) (by decide) (by omega) (fun hc => ?_) (fun hc => ?_) <;> first | (exfalso; omega) | skip) | refine T_if_ne_t (tgt := 11) (pc := 5) k_S_loses_5 rfl (by decide) ?_ | refine T_if_ne_f (tgt := 11) (pc1 := 8) (pc := 5) k_S_loses_5 rfl rfl (by decide) ?_ | refine T_if_ne (tgt := 11) (pc1 := 8) (pc := 5) k_S_loses_5 rfl rfl (fun hc => ?_) (fun hc => ?_))))))
      | (refine T_ldc (v := (-1000000001)) (pc1 := 10) (pc := 8) k_S_loses_8 rfl c_S_81 ?_ <;> try (refine T_retI (pc := 10) k_S_loses_10 rfl (by first | rfl | decide | assumption) ?_))
      | refine T_iload_n (pc1 := 2) (pc := 1) k_S_loses_1 rfl rfl ?_
      | (refine T_cS (As := [_, _]) (d1 := 3) (pc1 := 5) (pc := 2) k_S_loses_2 rfl (by decide) (Nat.le_of_ble_eq_true rfl) rfl o_S_areSpots l_S_73 rfl (c_S_areSpots (fun hw => ?_) (fun hw => ?_)) <;> try dsimp only [psh])
      | (with_reducible refine T_if_neN (tgt := 11) (pc1 := 8) (pc := 5) k_S_loses_5 (by decide) (by decide) (by omega) (fun hc => ?_) (fun hc => ?_) <;> first | (exfalso; omega) | skip)
      | refine T_if_ne_t (tgt := 11) (pc := 5) k_S_loses_5 rfl (by decide) ?_
      | refine T_if_ne_f (tgt := 11) (pc1 := 8) (pc := 5) k_S_loses_5 rfl rfl (by decide) ?_
      | refine T_if_ne (tgt := 11) (pc1 := 8) (pc := 5) k_S_loses_5 rfl rfl (fun hc => ?_) (fun hc => ?_)
      | refine T_retI (pc := 10) k_S_loses_10 rfl (by first | rfl | decide | assumption) ?_)
    all_goals first | exact kk | contradiction
theorem c_S_behind {N : Row} {n tn : Nat} {f t m : Int32} (G : GeoOK g) (ok : okL N n tn) (okw : okW N) (hL : LaR g I 1 N n tn) (kk : ∀ g' J r, GeoOK g' → GS 43 g g' → fre tf I J → r = behindA N n tn f t m → K (some (.int r)) g' J) : Cl 7 M_S_behind [.ref 0, .int f, .int t, .int m] g I K := by
  show Rl 7 M_S_behind 0 [some (.ref 0), some (.int f), some (.int t), some (.int m), none] [] g I K
  have LG := land_1 G
  have h14 := ok.2.1
  have e0 : (nI 0).toInt = 0 := rfl
  have e40 : (nI 40).toInt = 40 := rfl
  by_cases hok : (rg 8 f ∧ rg 8 t) ∧ bt 0 40 m
  · rw [behindA, if_pos hok] at kk
    obtain ⟨a, ha, rfl⟩ := rg_of hok.1.1 (by omega)
    obtain ⟨b, hb, rfl⟩ := rg_of hok.1.2 (by omega)
    obtain ⟨x, -, hx, rfl⟩ := bt_of (lo := 0) (hi := 40) hok.2 (by omega)
    have ex := nI_toInt (n := x) (by omega)
    rw [nI_clamp (by omega), nI_clamp (by omega), nI_clamp (by omega)] at kk
    have loop : ∀ q k (g' : Geo) (J : IM), k + q = x → GeoOK g' → GS 43 g g' → fre tf I J → LaR g' J 41 (itN N n tn a b k) n tn → Rl 7 M_S_behind 35 [some (.ref 0), some (.int (nI a)), some (.int (nI b)), some (.int (nI x)), some (.int (nI k))] [] g' J K := by
      intro q
      induction q with
      | zero =>
        intro k g' J hk G hg hJ hJL
        have hk : k = x := by omega
        subst hk
        repeat' (first
          | (refine T_iload (pc1 := 37) (pc := 35) k_S_behind_35 rfl rfl ?_ <;> try (refine T_iload_n (pc1 := 38) (pc := 37) k_S_behind_37 rfl rfl ?_ <;> try ((first | (with_reducible refine T_icmp_geN (tgt := 61) (pc1 := 41) (pc := 38) k_S_behind_38 (by decide) (by decide) (by omega) (by omega) (fun hc => ?_) (fun hc => ?_) <;> first | (exfalso; omega) | skip) | refine T_icmp_ge_t (tgt := 61) (pc := 38) k_S_behind_38 rfl (by decide) ?_ | refine T_icmp_ge_f (tgt := 61) (pc1 := 41) (pc := 38) k_S_behind_38 rfl rfl (by decide) ?_ | refine T_icmp_ge (tgt := 61) (pc1 := 41) (pc := 38) k_S_behind_38 rfl rfl (fun hc => ?_) (fun hc => ?_)))))
          | ((first | refine T_aload_n (pc1 := 62) (pc := 61) k_S_behind_61 rfl rfl ?_ | refine T_aload_nN (pc1 := 62) (pc := 61) k_S_behind_61 rfl rfl ?_) <;> try (refine T_getR (pc1 := 65) (pc := 62) k_S_behind_62 rfl f_S_36 rfl (by first | assumption | exact ga G (by decide) rfl | exact lgA LG (by omega)) (by first | assumption | exact gr G (by decide) rfl | exact lgR LG (by omega)) ?_ <;> try ((first | refine T_aload_n (pc1 := 66) (pc := 65) k_S_behind_65 rfl rfl ?_ | refine T_aload_nN (pc1 := 66) (pc := 65) k_S_behind_65 rfl rfl ?_) <;> try (refine T_getR (pc1 := 69) (pc := 66) k_S_behind_66 rfl f_S_23 rfl (by first | assumption | exact ga G (by decide) rfl | exact lgA LG (by omega)) (by first | assumption | exact gr G (by decide) rfl | exact lgR LG (by omega)) ?_ <;> try (refine T_iload_n (pc1 := 70) (pc := 69) k_S_behind_69 rfl rfl ?_ <;> try (refine T_iload_n (pc1 := 71) (pc := 70) k_S_behind_70 rfl rfl ?_ <;> try ((refine T_cV (As := [_, _, _]) (d1 := 6) (pc1 := 74) (pc := 71) k_S_behind_71 rfl (by decide) (Nat.le_of_ble_eq_true rfl) rfl o_Wr_go l_S_164 rfl (by first | assumption | exact ga G (by decide) rfl | exact lgA LG (by omega)) rfl (c_Wr_go G (land_41 G) (itN_ok ok ha hb k).1 hJL ha hb (fun J2 hJ2 hJ2L => ?_)) <;> try dsimp only [psh]) <;> try (refine T_retI (pc := 74) k_S_behind_74 rfl (by first | rfl | decide | assumption) ?_))))))))
          | refine T_iload_n (pc1 := 38) (pc := 37) k_S_behind_37 rfl rfl ?_
          | (with_reducible refine T_icmp_geN (tgt := 61) (pc1 := 41) (pc := 38) k_S_behind_38 (by decide) (by decide) (by omega) (by omega) (fun hc => ?_) (fun hc => ?_) <;> first | (exfalso; omega) | skip)
          | refine T_icmp_ge_t (tgt := 61) (pc := 38) k_S_behind_38 rfl (by decide) ?_
          | refine T_icmp_ge_f (tgt := 61) (pc1 := 41) (pc := 38) k_S_behind_38 rfl rfl (by decide) ?_
          | refine T_icmp_ge (tgt := 61) (pc1 := 41) (pc := 38) k_S_behind_38 rfl rfl (fun hc => ?_) (fun hc => ?_)
          | refine T_getR (pc1 := 65) (pc := 62) k_S_behind_62 rfl f_S_36 rfl (by first | assumption | exact ga G (by decide) rfl | exact lgA LG (by omega)) (by first | assumption | exact gr G (by decide) rfl | exact lgR LG (by omega)) ?_
          | refine T_aload_n (pc1 := 66) (pc := 65) k_S_behind_65 rfl rfl ?_
          | refine T_aload_nN (pc1 := 66) (pc := 65) k_S_behind_65 rfl rfl ?_
          | refine T_getR (pc1 := 69) (pc := 66) k_S_behind_66 rfl f_S_23 rfl (by first | assumption | exact ga G (by decide) rfl | exact lgA LG (by omega)) (by first | assumption | exact gr G (by decide) rfl | exact lgR LG (by omega)) ?_
          | refine T_iload_n (pc1 := 70) (pc := 69) k_S_behind_69 rfl rfl ?_
          | refine T_iload_n (pc1 := 71) (pc := 70) k_S_behind_70 rfl rfl ?_
          | (refine T_cV (As := [_, _, _]) (d1 := 6) (pc1 := 74) (pc := 71) k_S_behind_71 rfl (by decide) (Nat.le_of_ble_eq_true rfl) rfl o_Wr_go l_S_164 rfl (by first | assumption | exact ga G (by decide) rfl | exact lgA LG (by omega)) rfl (c_Wr_go G (land_41 G) (itN_ok ok ha hb k).1 hJL ha hb (fun J2 hJ2 hJ2L => ?_)) <;> try dsimp only [psh])
          | refine T_retI (pc := 74) k_S_behind_74 rfl (by first | rfl | decide | assumption) ?_)
        exact kk g' J2 _ G hg (fr_tr hJ (fr_mono hJ2 (fun i hi => Or.inl hi))) rfl
      | succ q ih =>
        intro k g' J hk G hg hJ hJL
        refine T_iload (pc1 := 37) (pc := 35) k_S_behind_35 rfl rfl ?_
        repeat' (first
          | (refine T_iload_n (pc1 := 38) (pc := 37) k_S_behind_37 rfl rfl ?_ <;> try ((first | (with_reducible refine T_icmp_geN (tgt := 61) (pc1 := 41) (pc := 38) k_S_behind_38 (by decide) (by decide) (by omega) (by omega) (fun hc => ?_) (fun hc => ?_) <;> first | (exfalso; omega) | skip) | refine T_icmp_ge_t (tgt := 61) (pc := 38) k_S_behind_38 rfl (by decide) ?_ | refine T_icmp_ge_f (tgt := 61) (pc1 := 41) (pc := 38) k_S_behind_38 rfl rfl (by decide) ?_ | refine T_icmp_ge (tgt := 61) (pc1 := 41) (pc := 38) k_S_behind_38 rfl rfl (fun hc => ?_) (fun hc => ?_))))
          | ((first | refine T_aload_n (pc1 := 42) (pc := 41) k_S_behind_41 rfl rfl ?_ | refine T_aload_nN (pc1 := 42) (pc := 41) k_S_behind_41 rfl rfl ?_) <;> try (refine T_getR (pc1 := 45) (pc := 42) k_S_behind_42 rfl f_S_36 rfl (by first | assumption | exact ga G (by decide) rfl | exact lgA LG (by omega)) (by first | assumption | exact gr G (by decide) rfl | exact lgR LG (by omega)) ?_ <;> try ((first | refine T_aload_n (pc1 := 46) (pc := 45) k_S_behind_45 rfl rfl ?_ | refine T_aload_nN (pc1 := 46) (pc := 45) k_S_behind_45 rfl rfl ?_) <;> try (refine T_getR (pc1 := 49) (pc := 46) k_S_behind_46 rfl f_S_23 rfl (by first | assumption | exact ga G (by decide) rfl | exact lgA LG (by omega)) (by first | assumption | exact gr G (by decide) rfl | exact lgR LG (by omega)) ?_ <;> try (refine T_iload_n (pc1 := 50) (pc := 49) k_S_behind_49 rfl rfl ?_ <;> try (refine T_iload_n (pc1 := 51) (pc := 50) k_S_behind_50 rfl rfl ?_ <;> try ((refine T_cV (As := [_, _, _]) (d1 := 6) (pc1 := 54) (pc := 51) k_S_behind_51 rfl (by decide) (Nat.le_of_ble_eq_true rfl) rfl o_Wr_go l_S_164 rfl (by first | assumption | exact ga G (by decide) rfl | exact lgA LG (by omega)) rfl (c_Wr_go G (land_41 G) (itN_ok ok ha hb k).1 hJL ha hb (fun J2 hJ2 hJ2L => ?_)) <;> try dsimp only [psh]) <;> try (refine T_pop (pc1 := 55) (pc := 54) k_S_behind_54 rfl rfl ?_ <;> try ((first | refine T_iincN (b := 1) (pc1 := 58) (pc := 55) k_S_behind_55 rfl rfl (by decide) ?_ | refine T_iinc (v := (nI 1)) (pc1 := 58) (pc := 55) k_S_behind_55 rfl rfl (by decide) ?_) <;> try (refine T_goto (tgt := 35) (pc := 58) k_S_behind_58 rfl ?_))))))))))
          | (with_reducible refine T_icmp_geN (tgt := 61) (pc1 := 41) (pc := 38) k_S_behind_38 (by decide) (by decide) (by omega) (by omega) (fun hc => ?_) (fun hc => ?_) <;> first | (exfalso; omega) | skip)
          | refine T_icmp_ge_t (tgt := 61) (pc := 38) k_S_behind_38 rfl (by decide) ?_
          | refine T_icmp_ge_f (tgt := 61) (pc1 := 41) (pc := 38) k_S_behind_38 rfl rfl (by decide) ?_
          | refine T_icmp_ge (tgt := 61) (pc1 := 41) (pc := 38) k_S_behind_38 rfl rfl (fun hc => ?_) (fun hc => ?_)
          | refine T_getR (pc1 := 45) (pc := 42) k_S_behind_42 rfl f_S_36 rfl (by first | assumption | exact ga G (by decide) rfl | exact lgA LG (by omega)) (by first | assumption | exact gr G (by decide) rfl | exact lgR LG (by omega)) ?_
          | refine T_aload_n (pc1 := 46) (pc := 45) k_S_behind_45 rfl rfl ?_
          | refine T_aload_nN (pc1 := 46) (pc := 45) k_S_behind_45 rfl rfl ?_
          | refine T_getR (pc1 := 49) (pc := 46) k_S_behind_46 rfl f_S_23 rfl (by first | assumption | exact ga G (by decide) rfl | exact lgA LG (by omega)) (by first | assumption | exact gr G (by decide) rfl | exact lgR LG (by omega)) ?_
          | refine T_iload_n (pc1 := 50) (pc := 49) k_S_behind_49 rfl rfl ?_
          | refine T_iload_n (pc1 := 51) (pc := 50) k_S_behind_50 rfl rfl ?_
          | (refine T_cV (As := [_, _, _]) (d1 := 6) (pc1 := 54) (pc := 51) k_S_behind_51 rfl (by decide) (Nat.le_of_ble_eq_true rfl) rfl o_Wr_go l_S_164 rfl (by first | assumption | exact ga G (by decide) rfl | exact lgA LG (by omega)) rfl (c_Wr_go G (land_41 G) (itN_ok ok ha hb k).1 hJL ha hb (fun J2 hJ2 hJ2L => ?_)) <;> try dsimp only [psh])
          | refine T_pop (pc1 := 55) (pc := 54) k_S_behind_54 rfl rfl ?_
          | refine T_iincN (b := 1) (pc1 := 58) (pc := 55) k_S_behind_55 rfl rfl (by decide) ?_
          | refine T_iinc (v := (nI 1)) (pc1 := 58) (pc := 55) k_S_behind_55 rfl rfl (by decide) ?_
          | refine T_goto (tgt := 35) (pc := 58) k_S_behind_58 rfl ?_)
        exact ih (k + 1) g' J2 (by omega) G hg (fr_tr hJ (fr_mono hJ2 (fun i hi => Or.inl hi))) hJ2L
    repeat' (first
      | (refine T_iload_n (pc1 := 1) (pc := 0) k_S_behind_0 rfl rfl ?_ <;> try (refine T_iload_n (pc1 := 2) (pc := 1) k_S_behind_1 rfl rfl ?_ <;> try ((refine T_cS (As := [_, _]) (d1 := 3) (pc1 := 5) (pc := 2) k_S_behind_2 rfl (by decide) (Nat.le_of_ble_eq_true rfl) rfl o_S_areSpots l_S_73 rfl (c_S_areSpots (fun hw => ?_) (fun hw => ?_)) <;> try dsimp only [psh]) <;> try ((first | (with_reducible refine T_if_eqN (tgt := 18) (pc1 := 8) (pc := 5) k_S_behind_5 (by decide) (by decide) (by omega) (fun hc => ?_) (fun hc => ?_) <;> first | (exfalso; omega) | skip) | refine T_if_eq_t (tgt := 18) (pc := 5) k_S_behind_5 rfl (by decide) ?_ | refine T_if_eq_f (tgt := 18) (pc1 := 8) (pc := 5) k_S_behind_5 rfl rfl (by decide) ?_ | refine T_if_eq (tgt := 18) (pc1 := 8) (pc := 5) k_S_behind_5 rfl rfl (fun hc => ?_) (fun hc => ?_))))))
      | (refine T_iload_n (pc1 := 9) (pc := 8) k_S_behind_8 rfl rfl ?_ <;> try (refine T_iconst (v := (nI 0)) (pc1 := 10) (pc := 9) k_S_behind_9 rfl (by decide) ?_ <;> try (refine T_bipush (v := (nI 40)) (pc1 := 12) (pc := 10) k_S_behind_10 rfl (by decide) ?_ <;> try ((refine T_cS (As := [_, _, _]) (d1 := 1) (pc1 := 15) (pc := 12) k_S_behind_12 rfl (by decide) (Nat.le_of_ble_eq_true rfl) rfl o_S_isWithin l_S_77 rfl (c_S_isWithin (fun hw => ?_) (fun hw => ?_)) <;> try dsimp only [psh]) <;> try ((first | (with_reducible refine T_if_neN (tgt := 21) (pc1 := 18) (pc := 15) k_S_behind_15 (by decide) (by decide) (by omega) (fun hc => ?_) (fun hc => ?_) <;> first | (exfalso; omega) | skip) | refine T_if_ne_t (tgt := 21) (pc := 15) k_S_behind_15 rfl (by decide) ?_ | refine T_if_ne_f (tgt := 21) (pc1 := 18) (pc := 15) k_S_behind_15 rfl rfl (by decide) ?_ | refine T_if_ne (tgt := 21) (pc1 := 18) (pc := 15) k_S_behind_15 rfl rfl (fun hc => ?_) (fun hc => ?_)))))))
      | (refine T_ldc (v := (-1000000001)) (pc1 := 20) (pc := 18) k_S_behind_18 rfl c_S_81 ?_ <;> try (refine T_retI (pc := 20) k_S_behind_20 rfl (by first | rfl | decide | assumption) ?_))
      | ((first | refine T_aload_n (pc1 := 22) (pc := 21) k_S_behind_21 rfl rfl ?_ | refine T_aload_nN (pc1 := 22) (pc := 21) k_S_behind_21 rfl rfl ?_) <;> try (refine T_getR (pc1 := 25) (pc := 22) k_S_behind_22 rfl f_S_23 rfl (by first | assumption | exact ga G (by decide) rfl | exact lgA LG (by omega)) (by first | assumption | exact gr G (by decide) rfl | exact lgR LG (by omega)) ?_ <;> try ((first | refine T_aload_n (pc1 := 26) (pc := 25) k_S_behind_25 rfl rfl ?_ | refine T_aload_nN (pc1 := 26) (pc := 25) k_S_behind_25 rfl rfl ?_) <;> try (refine T_getR (pc1 := 29) (pc := 26) k_S_behind_26 rfl f_S_10 rfl (by first | assumption | exact ga G (by decide) rfl | exact lgA LG (by omega)) (by first | assumption | exact gr G (by decide) rfl | exact lgR LG (by omega)) ?_ <;> try ((refine T_cV (As := [_]) (d1 := 2) (pc1 := 32) (pc := 29) k_S_behind_29 rfl (by decide) (Nat.le_of_ble_eq_true rfl) rfl o_La_takeFrom l_S_197 rfl (by first | assumption | exact ga G (by decide) rfl | exact lgA LG (by omega)) rfl (c_think G LG (by decide) ok okw hL (fun g' J2 G hg hJ2 hJ2L => ?_)) <;> try dsimp only [psh]) <;> try (refine T_iconst (v := (nI 0)) (pc1 := 33) (pc := 32) k_S_behind_32 rfl (by decide) ?_ <;> try (refine T_istore (pc1 := 35) (pc := 33) k_S_behind_33 rfl (Nat.le_of_ble_eq_true rfl) ?_)))))))
      | refine T_iload_n (pc1 := 2) (pc := 1) k_S_behind_1 rfl rfl ?_
      | (refine T_cS (As := [_, _]) (d1 := 3) (pc1 := 5) (pc := 2) k_S_behind_2 rfl (by decide) (Nat.le_of_ble_eq_true rfl) rfl o_S_areSpots l_S_73 rfl (c_S_areSpots (fun hw => ?_) (fun hw => ?_)) <;> try dsimp only [psh])
      | (with_reducible refine T_if_eqN (tgt := 18) (pc1 := 8) (pc := 5) k_S_behind_5 (by decide) (by decide) (by omega) (fun hc => ?_) (fun hc => ?_) <;> first | (exfalso; omega) | skip)
      | refine T_if_eq_t (tgt := 18) (pc := 5) k_S_behind_5 rfl (by decide) ?_
      | refine T_if_eq_f (tgt := 18) (pc1 := 8) (pc := 5) k_S_behind_5 rfl rfl (by decide) ?_
      | refine T_if_eq (tgt := 18) (pc1 := 8) (pc := 5) k_S_behind_5 rfl rfl (fun hc => ?_) (fun hc => ?_)
      | refine T_iconst (v := (nI 0)) (pc1 := 10) (pc := 9) k_S_behind_9 rfl (by decide) ?_
      | refine T_bipush (v := (nI 40)) (pc1 := 12) (pc := 10) k_S_behind_10 rfl (by decide) ?_
      | (refine T_cS (As := [_, _, _]) (d1 := 1) (pc1 := 15) (pc := 12) k_S_behind_12 rfl (by decide) (Nat.le_of_ble_eq_true rfl) rfl o_S_isWithin l_S_77 rfl (c_S_isWithin (fun hw => ?_) (fun hw => ?_)) <;> try dsimp only [psh])
      | (with_reducible refine T_if_neN (tgt := 21) (pc1 := 18) (pc := 15) k_S_behind_15 (by decide) (by decide) (by omega) (fun hc => ?_) (fun hc => ?_) <;> first | (exfalso; omega) | skip)
      | refine T_if_ne_t (tgt := 21) (pc := 15) k_S_behind_15 rfl (by decide) ?_
      | refine T_if_ne_f (tgt := 21) (pc1 := 18) (pc := 15) k_S_behind_15 rfl rfl (by decide) ?_
      | refine T_if_ne (tgt := 21) (pc1 := 18) (pc := 15) k_S_behind_15 rfl rfl (fun hc => ?_) (fun hc => ?_)
      | refine T_retI (pc := 20) k_S_behind_20 rfl (by first | rfl | decide | assumption) ?_
      | refine T_getR (pc1 := 25) (pc := 22) k_S_behind_22 rfl f_S_23 rfl (by first | assumption | exact ga G (by decide) rfl | exact lgA LG (by omega)) (by first | assumption | exact gr G (by decide) rfl | exact lgR LG (by omega)) ?_
      | refine T_aload_n (pc1 := 26) (pc := 25) k_S_behind_25 rfl rfl ?_
      | refine T_aload_nN (pc1 := 26) (pc := 25) k_S_behind_25 rfl rfl ?_
      | refine T_getR (pc1 := 29) (pc := 26) k_S_behind_26 rfl f_S_10 rfl (by first | assumption | exact ga G (by decide) rfl | exact lgA LG (by omega)) (by first | assumption | exact gr G (by decide) rfl | exact lgR LG (by omega)) ?_
      | (refine T_cV (As := [_]) (d1 := 2) (pc1 := 32) (pc := 29) k_S_behind_29 rfl (by decide) (Nat.le_of_ble_eq_true rfl) rfl o_La_takeFrom l_S_197 rfl (by first | assumption | exact ga G (by decide) rfl | exact lgA LG (by omega)) rfl (c_think G LG (by decide) ok okw hL (fun g' J2 G hg hJ2 hJ2L => ?_)) <;> try dsimp only [psh])
      | refine T_iconst (v := (nI 0)) (pc1 := 33) (pc := 32) k_S_behind_32 rfl (by decide) ?_
      | refine T_istore (pc1 := 35) (pc := 33) k_S_behind_33 rfl (Nat.le_of_ble_eq_true rfl) ?_)
    all_goals first | exact loop x 0 g' J2 (by omega) G hg (fr_mono hJ2 (fun i hi => Or.inl hi)) hJ2L | (exfalso; exact hw hok.1) | (exfalso; apply hw; constructor <;> omega)
  · rw [behindA, if_neg hok] at kk
    have kk := kk g I _ G GS_rf fr_rf rfl
    repeat' (first
      | (refine T_iload_n (pc1 := 1) (pc := 0) k_S_behind_0 rfl rfl ?_ <;> try (refine T_iload_n (pc1 := 2) (pc := 1) k_S_behind_1 rfl rfl ?_ <;> try ((refine T_cS (As := [_, _]) (d1 := 3) (pc1 := 5) (pc := 2) k_S_behind_2 rfl (by decide) (Nat.le_of_ble_eq_true rfl) rfl o_S_areSpots l_S_73 rfl (c_S_areSpots (fun hw => ?_) (fun hw => ?_)) <;> try dsimp only [psh]) <;> try ((first | (with_reducible refine T_if_eqN (tgt := 18) (pc1 := 8) (pc := 5) k_S_behind_5 (by decide) (by decide) (by omega) (fun hc => ?_) (fun hc => ?_) <;> first | (exfalso; omega) | skip) | refine T_if_eq_t (tgt := 18) (pc := 5) k_S_behind_5 rfl (by decide) ?_ | refine T_if_eq_f (tgt := 18) (pc1 := 8) (pc := 5) k_S_behind_5 rfl rfl (by decide) ?_ | refine T_if_eq (tgt := 18) (pc1 := 8) (pc := 5) k_S_behind_5 rfl rfl (fun hc => ?_) (fun hc => ?_))))))
      | (refine T_iload_n (pc1 := 9) (pc := 8) k_S_behind_8 rfl rfl ?_ <;> try (refine T_iconst (v := (nI 0)) (pc1 := 10) (pc := 9) k_S_behind_9 rfl (by decide) ?_ <;> try (refine T_bipush (v := (nI 40)) (pc1 := 12) (pc := 10) k_S_behind_10 rfl (by decide) ?_ <;> try ((refine T_cS (As := [_, _, _]) (d1 := 1) (pc1 := 15) (pc := 12) k_S_behind_12 rfl (by decide) (Nat.le_of_ble_eq_true rfl) rfl o_S_isWithin l_S_77 rfl (c_S_isWithin (fun hw => ?_) (fun hw => ?_)) <;> try dsimp only [psh]) <;> try ((first | (with_reducible refine T_if_neN (tgt := 21) (pc1 := 18) (pc := 15) k_S_behind_15 (by decide) (by decide) (by omega) (fun hc => ?_) (fun hc => ?_) <;> first | (exfalso; omega) | skip) | refine T_if_ne_t (tgt := 21) (pc := 15) k_S_behind_15 rfl (by decide) ?_ | refine T_if_ne_f (tgt := 21) (pc1 := 18) (pc := 15) k_S_behind_15 rfl rfl (by decide) ?_ | refine T_if_ne (tgt := 21) (pc1 := 18) (pc := 15) k_S_behind_15 rfl rfl (fun hc => ?_) (fun hc => ?_)))))))
      | (refine T_ldc (v := (-1000000001)) (pc1 := 20) (pc := 18) k_S_behind_18 rfl c_S_81 ?_ <;> try (refine T_retI (pc := 20) k_S_behind_20 rfl (by first | rfl | decide | assumption) ?_))
      | refine T_iload_n (pc1 := 2) (pc := 1) k_S_behind_1 rfl rfl ?_
      | (refine T_cS (As := [_, _]) (d1 := 3) (pc1 := 5) (pc := 2) k_S_behind_2 rfl (by decide) (Nat.le_of_ble_eq_true rfl) rfl o_S_areSpots l_S_73 rfl (c_S_areSpots (fun hw => ?_) (fun hw => ?_)) <;> try dsimp only [psh])
      | (with_reducible refine T_if_eqN (tgt := 18) (pc1 := 8) (pc := 5) k_S_behind_5 (by decide) (by decide) (by omega) (fun hc => ?_) (fun hc => ?_) <;> first | (exfalso; omega) | skip)
      | refine T_if_eq_t (tgt := 18) (pc := 5) k_S_behind_5 rfl (by decide) ?_
      | refine T_if_eq_f (tgt := 18) (pc1 := 8) (pc := 5) k_S_behind_5 rfl rfl (by decide) ?_
      | refine T_if_eq (tgt := 18) (pc1 := 8) (pc := 5) k_S_behind_5 rfl rfl (fun hc => ?_) (fun hc => ?_)
      | refine T_iconst (v := (nI 0)) (pc1 := 10) (pc := 9) k_S_behind_9 rfl (by decide) ?_
      | refine T_bipush (v := (nI 40)) (pc1 := 12) (pc := 10) k_S_behind_10 rfl (by decide) ?_
      | (refine T_cS (As := [_, _, _]) (d1 := 1) (pc1 := 15) (pc := 12) k_S_behind_12 rfl (by decide) (Nat.le_of_ble_eq_true rfl) rfl o_S_isWithin l_S_77 rfl (c_S_isWithin (fun hw => ?_) (fun hw => ?_)) <;> try dsimp only [psh])
      | (with_reducible refine T_if_neN (tgt := 21) (pc1 := 18) (pc := 15) k_S_behind_15 (by decide) (by decide) (by omega) (fun hc => ?_) (fun hc => ?_) <;> first | (exfalso; omega) | skip)
      | refine T_if_ne_t (tgt := 21) (pc := 15) k_S_behind_15 rfl (by decide) ?_
      | refine T_if_ne_f (tgt := 21) (pc1 := 18) (pc := 15) k_S_behind_15 rfl rfl (by decide) ?_
      | refine T_if_ne (tgt := 21) (pc1 := 18) (pc := 15) k_S_behind_15 rfl rfl (fun hc => ?_) (fun hc => ?_)
      | refine T_retI (pc := 20) k_S_behind_20 rfl (by first | rfl | decide | assumption) ?_)
    all_goals first | exact kk | (exfalso; exact hok ⟨by assumption, by constructor <;> omega⟩)
end S2
