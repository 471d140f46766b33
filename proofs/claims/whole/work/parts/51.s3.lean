/-! The class's calls: same, look, wanted, reach, ever, fine. -/
section S3
variable {g : Geo} {I : IM} {K : Option Value → Geo → IM → Prop}
set_option maxHeartbeats 4000000 in
theorem c_S_same {N : Row} {n tn : Nat} {f t : Int32} (G : GeoOK g) (ok : okL N n tn) (okw : okW N) (hL : LaR g I 1 N n tn) (kk : ∀ g' J r, GeoOK g' → GS 43 g g' → fre tf I J → r = sameA N n tn f t → K (some (.int r)) g' J) : Cl 7 M_S_same [.ref 0, .int f, .int t] g I K := by
  show Rl 7 M_S_same 0 [some (.ref 0), some (.int f), some (.int t), none] [] g I K
  have LG := land_1 G
  have h14 := ok.2.1
  by_cases hok : rg 8 f ∧ rg 8 t
  · rw [sameA, if_pos hok] at kk
    obtain ⟨a, ha, rfl⟩ := rg_of hok.1 (by omega)
    obtain ⟨b, hb, rfl⟩ := rg_of hok.2 (by omega)
    rw [nI_clamp (by omega), nI_clamp (by omega)] at kk
    have loop : ∀ q k (g' : Geo) (J : IM), k + q = 41 → 1 ≤ k → GeoOK g' → GS 43 g g' → fre tf I J → LaR g' J 41 (itN N n tn a b k) n tn → lsq (smP N n tn a b) 1 40 = lsq (smP N n tn a b) k (41 - k) → Rl 7 M_S_same 38 [some (.ref 0), some (.int (nI a)), some (.int (nI b)), some (.int (nI k))] [] g' J K := by
      intro q
      induction q with
      | zero =>
        intro k g' J hk h1 G hg hJ hJL hl
        have hk : k = 41 := by omega
        subst hk
        repeat' (first
          | (refine T_iload_n (pc1 := 39) (pc := 38) k_S_same_38 rfl rfl ?_ <;> try (refine T_bipush (v := (nI 40)) (pc1 := 41) (pc := 39) k_S_same_39 rfl (by decide) ?_ <;> try ((first | (with_reducible refine T_icmp_gtN (tgt := 97) (pc1 := 44) (pc := 41) k_S_same_41 (by decide) (by decide) (by omega) (by omega) (fun hc => ?_) (fun hc => ?_) <;> first | (exfalso; omega) | skip) | refine T_icmp_gt_t (tgt := 97) (pc := 41) k_S_same_41 rfl (by decide) ?_ | refine T_icmp_gt_f (tgt := 97) (pc1 := 44) (pc := 41) k_S_same_41 rfl rfl (by decide) ?_ | refine T_icmp_gt (tgt := 97) (pc1 := 44) (pc := 41) k_S_same_41 rfl rfl (fun hc => ?_) (fun hc => ?_)))))
          | (refine T_ldc (v := (-1000000005)) (pc1 := 99) (pc := 97) k_S_same_97 rfl c_S_148 ?_ <;> try (refine T_retI (pc := 99) k_S_same_99 rfl (by first | rfl | decide | assumption) ?_))
          | refine T_bipush (v := (nI 40)) (pc1 := 41) (pc := 39) k_S_same_39 rfl (by decide) ?_
          | (with_reducible refine T_icmp_gtN (tgt := 97) (pc1 := 44) (pc := 41) k_S_same_41 (by decide) (by decide) (by omega) (by omega) (fun hc => ?_) (fun hc => ?_) <;> first | (exfalso; omega) | skip)
          | refine T_icmp_gt_t (tgt := 97) (pc := 41) k_S_same_41 rfl (by decide) ?_
          | refine T_icmp_gt_f (tgt := 97) (pc1 := 44) (pc := 41) k_S_same_41 rfl rfl (by decide) ?_
          | refine T_icmp_gt (tgt := 97) (pc1 := 44) (pc := 41) k_S_same_41 rfl rfl (fun hc => ?_) (fun hc => ?_)
          | refine T_retI (pc := 99) k_S_same_99 rfl (by first | rfl | decide | assumption) ?_)
        exact kk g' J _ G hg hJ (by rw [hl]; rfl)
      | succ q ih =>
        intro k g' J hk h1 G hg hJ hJL hl
        obtain ⟨k, rfl⟩ : ∃ k', k = k' + 1 := ⟨k - 1, by omega⟩
        have L41 := land_41 G
        obtain ⟨g1, g2, g3, g4, g5, g6, g7, g8, g9, g10, g11, g12, g13, g14⟩ := id L41
        obtain ⟨ok1, -⟩ := itN_ok (fr := a) (to0 := b) ok ha hb (k + 1)
        obtain ⟨ts, s60, s9, s7, sb⟩ := itN_okW (fr := a) (to0 := b) ok ha hb k
        obtain ⟨tr, h60, h9, h7, hbb⟩ := itN_okW (fr := a) (to0 := b) ok ha hb (k + 1)
        obtain ⟨w0, w1, w2, w3, w4, w5⟩ := id hJL.2.2.1
        have v0 : J (41 + 4) 0 = nI 0 ∨ J (41 + 4) 0 = nI 1 := by rw [w0]; exact s7.imp (fun q => q.1) id
        have v2 : J (41 + 4) 2 = nI ts := w2.trans s9
        refine T_iload_n (pc1 := 39) (pc := 38) k_S_same_38 rfl rfl ?_
        repeat' (first
          | (refine T_bipush (v := (nI 40)) (pc1 := 41) (pc := 39) k_S_same_39 rfl (by decide) ?_ <;> try ((first | (with_reducible refine T_icmp_gtN (tgt := 97) (pc1 := 44) (pc := 41) k_S_same_41 (by decide) (by decide) (by omega) (by omega) (fun hc => ?_) (fun hc => ?_) <;> first | (exfalso; omega) | skip) | refine T_icmp_gt_t (tgt := 97) (pc := 41) k_S_same_41 rfl (by decide) ?_ | refine T_icmp_gt_f (tgt := 97) (pc1 := 44) (pc := 41) k_S_same_41 rfl rfl (by decide) ?_ | refine T_icmp_gt (tgt := 97) (pc1 := 44) (pc := 41) k_S_same_41 rfl rfl (fun hc => ?_) (fun hc => ?_))))
          | ((first | refine T_aload_n (pc1 := 45) (pc := 44) k_S_same_44 rfl rfl ?_ | refine T_aload_nN (pc1 := 45) (pc := 44) k_S_same_44 rfl rfl ?_) <;> try (refine T_getR (pc1 := 48) (pc := 45) k_S_same_45 rfl f_S_29 rfl (by first | assumption | exact ga G (by decide) rfl | exact lgA LG (by omega)) (by first | assumption | exact gr G (by decide) rfl | exact lgR LG (by omega)) ?_ <;> try ((first | refine T_aload_n (pc1 := 49) (pc := 48) k_S_same_48 rfl rfl ?_ | refine T_aload_nN (pc1 := 49) (pc := 48) k_S_same_48 rfl rfl ?_) <;> try (refine T_getR (pc1 := 52) (pc := 49) k_S_same_49 rfl f_S_23 rfl (by first | assumption | exact ga G (by decide) rfl | exact lgA LG (by omega)) (by first | assumption | exact gr G (by decide) rfl | exact lgR LG (by omega)) ?_ <;> try (refine T_getR (pc1 := 55) (pc := 52) k_S_same_52 rfl f_S_168 rfl (by first | assumption | exact ga G (by decide) rfl | exact lgA LG (by omega)) (by first | assumption | exact gr G (by decide) rfl | exact lgR LG (by omega)) ?_ <;> try ((refine T_cV (As := [_]) (d1 := 1) (pc1 := 58) (pc := 55) k_S_same_55 rfl (by decide) (Nat.le_of_ble_eq_true rfl) rfl o_Wa_takeFrom l_S_201 rfl (by first | assumption | exact ga G (by decide) rfl | exact lgA LG (by omega)) rfl (c_Wa_takeFrom (ga G (by decide) rfl) g5 (gr G (by decide) rfl) g12 (ga G (by decide) rfl) g6 v0 v2 s60 (by decide) (by decide) (by decide) (by decide) (by decide) (fun J2 hJ2 hJ2w hJ2r => ?_)) <;> try dsimp only [psh])))))))
          | (with_reducible refine T_icmp_gtN (tgt := 97) (pc1 := 44) (pc := 41) k_S_same_41 (by decide) (by decide) (by omega) (by omega) (fun hc => ?_) (fun hc => ?_) <;> first | (exfalso; omega) | skip)
          | refine T_icmp_gt_t (tgt := 97) (pc := 41) k_S_same_41 rfl (by decide) ?_
          | refine T_icmp_gt_f (tgt := 97) (pc1 := 44) (pc := 41) k_S_same_41 rfl rfl (by decide) ?_
          | refine T_icmp_gt (tgt := 97) (pc1 := 44) (pc := 41) k_S_same_41 rfl rfl (fun hc => ?_) (fun hc => ?_)
          | refine T_getR (pc1 := 48) (pc := 45) k_S_same_45 rfl f_S_29 rfl (by first | assumption | exact ga G (by decide) rfl | exact lgA LG (by omega)) (by first | assumption | exact gr G (by decide) rfl | exact lgR LG (by omega)) ?_
          | refine T_aload_n (pc1 := 49) (pc := 48) k_S_same_48 rfl rfl ?_
          | refine T_aload_nN (pc1 := 49) (pc := 48) k_S_same_48 rfl rfl ?_
          | refine T_getR (pc1 := 52) (pc := 49) k_S_same_49 rfl f_S_23 rfl (by first | assumption | exact ga G (by decide) rfl | exact lgA LG (by omega)) (by first | assumption | exact gr G (by decide) rfl | exact lgR LG (by omega)) ?_
          | refine T_getR (pc1 := 55) (pc := 52) k_S_same_52 rfl f_S_168 rfl (by first | assumption | exact ga G (by decide) rfl | exact lgA LG (by omega)) (by first | assumption | exact gr G (by decide) rfl | exact lgR LG (by omega)) ?_
          | (refine T_cV (As := [_]) (d1 := 1) (pc1 := 58) (pc := 55) k_S_same_55 rfl (by decide) (Nat.le_of_ble_eq_true rfl) rfl o_Wa_takeFrom l_S_201 rfl (by first | assumption | exact ga G (by decide) rfl | exact lgA LG (by omega)) rfl (c_Wa_takeFrom (ga G (by decide) rfl) g5 (gr G (by decide) rfl) g12 (ga G (by decide) rfl) g6 v0 v2 s60 (by decide) (by decide) (by decide) (by decide) (by decide) (fun J2 hJ2 hJ2w hJ2r => ?_)) <;> try dsimp only [psh]))
        have hJL2 := LR_fr hJL h14 (r := 3) GS_rf (by decide) (by decide) (fr_x (P := fun i => i = 61 ∨ i = 62) hJ2 (fun i hi => by simpa using hi)) (fun i hi q => by unfold lnd at hi; omega) (fun i hi => by omega)
        repeat' (first
          | ((first | refine T_aload_n (pc1 := 59) (pc := 58) k_S_same_58 rfl rfl ?_ | refine T_aload_nN (pc1 := 59) (pc := 58) k_S_same_58 rfl rfl ?_) <;> try (refine T_getR (pc1 := 62) (pc := 59) k_S_same_59 rfl f_S_36 rfl (by first | assumption | exact ga G (by decide) rfl | exact lgA LG (by omega)) (by first | assumption | exact gr G (by decide) rfl | exact lgR LG (by omega)) ?_ <;> try ((first | refine T_aload_n (pc1 := 63) (pc := 62) k_S_same_62 rfl rfl ?_ | refine T_aload_nN (pc1 := 63) (pc := 62) k_S_same_62 rfl rfl ?_) <;> try (refine T_getR (pc1 := 66) (pc := 63) k_S_same_63 rfl f_S_23 rfl (by first | assumption | exact ga G (by decide) rfl | exact lgA LG (by omega)) (by first | assumption | exact gr G (by decide) rfl | exact lgR LG (by omega)) ?_ <;> try (refine T_iload_n (pc1 := 67) (pc := 66) k_S_same_66 rfl rfl ?_ <;> try (refine T_iload_n (pc1 := 68) (pc := 67) k_S_same_67 rfl rfl ?_ <;> try ((refine T_cV (As := [_, _, _]) (d1 := 6) (pc1 := 71) (pc := 68) k_S_same_68 rfl (by decide) (Nat.le_of_ble_eq_true rfl) rfl o_Wr_go l_S_164 rfl (by first | assumption | exact ga G (by decide) rfl | exact lgA LG (by omega)) rfl (c_Wr_go G L41 ok1 hJL2 ha hb (fun J3 hJ3 hJ3L => ?_)) <;> try dsimp only [psh]) <;> try (refine T_pop (pc1 := 72) (pc := 71) k_S_same_71 rfl rfl ?_))))))))
          | refine T_getR (pc1 := 62) (pc := 59) k_S_same_59 rfl f_S_36 rfl (by first | assumption | exact ga G (by decide) rfl | exact lgA LG (by omega)) (by first | assumption | exact gr G (by decide) rfl | exact lgR LG (by omega)) ?_
          | refine T_aload_n (pc1 := 63) (pc := 62) k_S_same_62 rfl rfl ?_
          | refine T_aload_nN (pc1 := 63) (pc := 62) k_S_same_62 rfl rfl ?_
          | refine T_getR (pc1 := 66) (pc := 63) k_S_same_63 rfl f_S_23 rfl (by first | assumption | exact ga G (by decide) rfl | exact lgA LG (by omega)) (by first | assumption | exact gr G (by decide) rfl | exact lgR LG (by omega)) ?_
          | refine T_iload_n (pc1 := 67) (pc := 66) k_S_same_66 rfl rfl ?_
          | refine T_iload_n (pc1 := 68) (pc := 67) k_S_same_67 rfl rfl ?_
          | (refine T_cV (As := [_, _, _]) (d1 := 6) (pc1 := 71) (pc := 68) k_S_same_68 rfl (by decide) (Nat.le_of_ble_eq_true rfl) rfl o_Wr_go l_S_164 rfl (by first | assumption | exact ga G (by decide) rfl | exact lgA LG (by omega)) rfl (c_Wr_go G L41 ok1 hJL2 ha hb (fun J3 hJ3 hJ3L => ?_)) <;> try dsimp only [psh])
          | refine T_pop (pc1 := 72) (pc := 71) k_S_same_71 rfl rfl ?_)
        have hJ3L : LaR g' J3 41 (itN N n tn a b (k + 1 + 1)) n tn := hJ3L
        obtain ⟨x0, x1, x2, x3, x4, x5⟩ := id hJ3L.2.2.1
        have y2 : J3 (41 + 4) 2 = nI tr := x2.trans h9
        have e61 : J3 61 = J2 61 := hJ3 61 (fun q => by unfold wf1 lnd stk at q; omega)
        have e62 : J3 62 = J2 62 := hJ3 62 (fun q => by unfold wf1 lnd stk at q; omega)
        have z2 : J3 61 2 = nI ts := by rw [e61, hJ2w 2 (by decide)]; exact v2
        have z1 : J3 61 1 = itN N n tn a b (k + 1) 8 := by rw [e61, hJ2w 1 (by decide)]; exact w1
        have zr : ∀ x, x < ts → J3 62 x = itN N n tn a b (k + 1) (96 + x) := fun x hx => by
          rw [e62, hJ2r x hx]; exact w5 x (by rw [s9, nI_clamp (by omega)]; exact hx)
        have xr : ∀ x, x < tr → J3 (41 + 5) x = itN N n tn a b (k + 1 + 1) (96 + x) := fun x hx => x5 x (by rw [h9, nI_clamp (by omega)]; exact hx)
        have lk := vE_like (N := itN N n tn a b (k + 1 + 1)) (M := itN N n tn a b (k + 1)) h9 s9 h60 s60
        have frJ : fre tf I J3 := fr_tr hJ (fr_tr (fr_x hJ2 (fun i hi => Or.inr (by simpa using hi))) (fr_mono hJ3 (fun i hi => Or.inl hi)))
        have el : lsq (smP N n tn a b) (k + 1) (41 - (k + 1)) = if smP N n tn a b (k + 1) = true then some (k + 1) else lsq (smP N n tn a b) (k + 1 + 1) (41 - (k + 1 + 1)) := by rw [show 41 - (k + 1) = (41 - (k + 1 + 1)) + 1 by omega, lsq]
        rw [el] at hl
        repeat' (first
          | ((first | refine T_aload_n (pc1 := 73) (pc := 72) k_S_same_72 rfl rfl ?_ | refine T_aload_nN (pc1 := 73) (pc := 72) k_S_same_72 rfl rfl ?_) <;> try (refine T_getR (pc1 := 76) (pc := 73) k_S_same_73 rfl f_S_23 rfl (by first | assumption | exact ga G (by decide) rfl | exact lgA LG (by omega)) (by first | assumption | exact gr G (by decide) rfl | exact lgR LG (by omega)) ?_ <;> try (refine T_getR (pc1 := 79) (pc := 76) k_S_same_76 rfl f_S_168 rfl (by first | assumption | exact ga G (by decide) rfl | exact lgA LG (by omega)) (by first | assumption | exact gr G (by decide) rfl | exact lgR LG (by omega)) ?_ <;> try ((first | refine T_aload_n (pc1 := 80) (pc := 79) k_S_same_79 rfl rfl ?_ | refine T_aload_nN (pc1 := 80) (pc := 79) k_S_same_79 rfl rfl ?_) <;> try (refine T_getR (pc1 := 83) (pc := 80) k_S_same_80 rfl f_S_29 rfl (by first | assumption | exact ga G (by decide) rfl | exact lgA LG (by omega)) (by first | assumption | exact gr G (by decide) rfl | exact lgR LG (by omega)) ?_ <;> try ((refine T_cV (As := [_]) (d1 := 1) (pc1 := 86) (pc := 83) k_S_same_83 rfl (by decide) (Nat.le_of_ble_eq_true rfl) rfl o_Wa_isLike l_S_204 rfl (by first | assumption | exact ga G (by decide) rfl | exact lgA LG (by omega)) rfl (c_Wa_isLike g5 (ga G (by decide) rfl) g12 (gr G (by decide) rfl) g6 (ga G (by decide) rfl) y2 h60 z2 s60 (fun hy => ?_) (fun hy => ?_)) <;> try dsimp only [psh]) <;> try ((first | (with_reducible refine T_if_eqN (tgt := 91) (pc1 := 89) (pc := 86) k_S_same_86 (by decide) (by decide) (by omega) (fun hc => ?_) (fun hc => ?_) <;> first | (exfalso; omega) | skip) | refine T_if_eq_t (tgt := 91) (pc := 86) k_S_same_86 rfl (by decide) ?_ | refine T_if_eq_f (tgt := 91) (pc1 := 89) (pc := 86) k_S_same_86 rfl rfl (by decide) ?_ | refine T_if_eq (tgt := 91) (pc1 := 89) (pc := 86) k_S_same_86 rfl rfl (fun hc => ?_) (fun hc => ?_)))))))))
          | (refine T_iload_n (pc1 := 90) (pc := 89) k_S_same_89 rfl rfl ?_ <;> try (refine T_retI (pc := 90) k_S_same_90 rfl (by first | rfl | decide | assumption) ?_))
          | ((first | refine T_iincN (b := 1) (pc1 := 94) (pc := 91) k_S_same_91 rfl rfl (by decide) ?_ | refine T_iinc (v := (nI 1)) (pc1 := 94) (pc := 91) k_S_same_91 rfl rfl (by decide) ?_) <;> try (refine T_goto (tgt := 38) (pc := 94) k_S_same_94 rfl ?_))
          | refine T_getR (pc1 := 76) (pc := 73) k_S_same_73 rfl f_S_23 rfl (by first | assumption | exact ga G (by decide) rfl | exact lgA LG (by omega)) (by first | assumption | exact gr G (by decide) rfl | exact lgR LG (by omega)) ?_
          | refine T_getR (pc1 := 79) (pc := 76) k_S_same_76 rfl f_S_168 rfl (by first | assumption | exact ga G (by decide) rfl | exact lgA LG (by omega)) (by first | assumption | exact gr G (by decide) rfl | exact lgR LG (by omega)) ?_
          | refine T_aload_n (pc1 := 80) (pc := 79) k_S_same_79 rfl rfl ?_
          | refine T_aload_nN (pc1 := 80) (pc := 79) k_S_same_79 rfl rfl ?_
          | refine T_getR (pc1 := 83) (pc := 80) k_S_same_80 rfl f_S_29 rfl (by first | assumption | exact ga G (by decide) rfl | exact lgA LG (by omega)) (by first | assumption | exact gr G (by decide) rfl | exact lgR LG (by omega)) ?_
          | (refine T_cV (As := [_]) (d1 := 1) (pc1 := 86) (pc := 83) k_S_same_83 rfl (by decide) (Nat.le_of_ble_eq_true rfl) rfl o_Wa_isLike l_S_204 rfl (by first | assumption | exact ga G (by decide) rfl | exact lgA LG (by omega)) rfl (c_Wa_isLike g5 (ga G (by decide) rfl) g12 (gr G (by decide) rfl) g6 (ga G (by decide) rfl) y2 h60 z2 s60 (fun hy => ?_) (fun hy => ?_)) <;> try dsimp only [psh])
          | (with_reducible refine T_if_eqN (tgt := 91) (pc1 := 89) (pc := 86) k_S_same_86 (by decide) (by decide) (by omega) (fun hc => ?_) (fun hc => ?_) <;> first | (exfalso; omega) | skip)
          | refine T_if_eq_t (tgt := 91) (pc := 86) k_S_same_86 rfl (by decide) ?_
          | refine T_if_eq_f (tgt := 91) (pc1 := 89) (pc := 86) k_S_same_86 rfl rfl (by decide) ?_
          | refine T_if_eq (tgt := 91) (pc1 := 89) (pc := 86) k_S_same_86 rfl rfl (fun hc => ?_) (fun hc => ?_)
          | refine T_retI (pc := 90) k_S_same_90 rfl (by first | rfl | decide | assumption) ?_
          | refine T_goto (tgt := 38) (pc := 94) k_S_same_94 rfl ?_)
        · obtain ⟨p1, p2, p3⟩ := hy
          have hs : smP N n tn a b (k + 1) = true := lk.mpr ⟨by rw [← z1, ← p1]; exact x1, p2.symm, fun i hi => by rw [← zr i (by omega), ← xr i hi]; exact (p3 i hi).symm⟩
          rw [if_pos hs] at hl
          exact kk g' J3 _ G hg frJ (by rw [hl]; rfl)
        · have hs : ¬ smP N n tn a b (k + 1) = true := fun q => by
            obtain ⟨p1, p2, p3⟩ := lk.mp q
            exact hy ⟨by rw [z1, p1]; exact x1, p2.symm, fun x hx => by rw [xr x hx, zr x (by omega)]; exact (p3 x hx).symm⟩
          rw [if_neg hs] at hl
          exact ih (k + 1 + 1) g' J3 (by omega) (by omega) G hg frJ hJ3L hl
    repeat' (first
      | (refine T_iload_n (pc1 := 1) (pc := 0) k_S_same_0 rfl rfl ?_ <;> try (refine T_iload_n (pc1 := 2) (pc := 1) k_S_same_1 rfl rfl ?_ <;> try ((refine T_cS (As := [_, _]) (d1 := 3) (pc1 := 5) (pc := 2) k_S_same_2 rfl (by decide) (Nat.le_of_ble_eq_true rfl) rfl o_S_areSpots l_S_73 rfl (c_S_areSpots (fun hw => ?_) (fun hw => ?_)) <;> try dsimp only [psh]) <;> try ((first | (with_reducible refine T_if_neN (tgt := 11) (pc1 := 8) (pc := 5) k_S_same_5 (by decide) (by decide) (by omega) (fun hc => ?_) (fun hc => ?_) <;> first | (exfalso; omega) | skip) | refine T_if_ne_t (tgt := 11) (pc := 5) k_S_same_5 rfl (by decide) ?_ | refine T_if_ne_f (tgt := 11) (pc1 := 8) (pc := 5) k_S_same_5 rfl rfl (by decide) ?_ | refine T_if_ne (tgt := 11) (pc1 := 8) (pc := 5) k_S_same_5 rfl rfl (fun hc => ?_) (fun hc => ?_))))))
      | (refine T_ldc (v := (-1000000001)) (pc1 := 10) (pc := 8) k_S_same_8 rfl c_S_81 ?_ <;> try (refine T_retI (pc := 10) k_S_same_10 rfl (by first | rfl | decide | assumption) ?_))
      | ((first | refine T_aload_n (pc1 := 12) (pc := 11) k_S_same_11 rfl rfl ?_ | refine T_aload_nN (pc1 := 12) (pc := 11) k_S_same_11 rfl rfl ?_) <;> try (refine T_getR (pc1 := 15) (pc := 12) k_S_same_12 rfl f_S_23 rfl (by first | assumption | exact ga G (by decide) rfl | exact lgA LG (by omega)) (by first | assumption | exact gr G (by decide) rfl | exact lgR LG (by omega)) ?_ <;> try ((first | refine T_aload_n (pc1 := 16) (pc := 15) k_S_same_15 rfl rfl ?_ | refine T_aload_nN (pc1 := 16) (pc := 15) k_S_same_15 rfl rfl ?_) <;> try (refine T_getR (pc1 := 19) (pc := 16) k_S_same_16 rfl f_S_10 rfl (by first | assumption | exact ga G (by decide) rfl | exact lgA LG (by omega)) (by first | assumption | exact gr G (by decide) rfl | exact lgR LG (by omega)) ?_ <;> try ((refine T_cV (As := [_]) (d1 := 2) (pc1 := 22) (pc := 19) k_S_same_19 rfl (by decide) (Nat.le_of_ble_eq_true rfl) rfl o_La_takeFrom l_S_197 rfl (by first | assumption | exact ga G (by decide) rfl | exact lgA LG (by omega)) rfl (c_think G LG (by decide) ok okw hL (fun g' J2 G hg hJ2 hJ2L => ?_)) <;> try dsimp only [psh]))))))
      | refine T_iload_n (pc1 := 2) (pc := 1) k_S_same_1 rfl rfl ?_
      | (refine T_cS (As := [_, _]) (d1 := 3) (pc1 := 5) (pc := 2) k_S_same_2 rfl (by decide) (Nat.le_of_ble_eq_true rfl) rfl o_S_areSpots l_S_73 rfl (c_S_areSpots (fun hw => ?_) (fun hw => ?_)) <;> try dsimp only [psh])
      | (with_reducible refine T_if_neN (tgt := 11) (pc1 := 8) (pc := 5) k_S_same_5 (by decide) (by decide) (by omega) (fun hc => ?_) (fun hc => ?_) <;> first | (exfalso; omega) | skip)
      | refine T_if_ne_t (tgt := 11) (pc := 5) k_S_same_5 rfl (by decide) ?_
      | refine T_if_ne_f (tgt := 11) (pc1 := 8) (pc := 5) k_S_same_5 rfl rfl (by decide) ?_
      | refine T_if_ne (tgt := 11) (pc1 := 8) (pc := 5) k_S_same_5 rfl rfl (fun hc => ?_) (fun hc => ?_)
      | refine T_retI (pc := 10) k_S_same_10 rfl (by first | rfl | decide | assumption) ?_
      | refine T_getR (pc1 := 15) (pc := 12) k_S_same_12 rfl f_S_23 rfl (by first | assumption | exact ga G (by decide) rfl | exact lgA LG (by omega)) (by first | assumption | exact gr G (by decide) rfl | exact lgR LG (by omega)) ?_
      | refine T_aload_n (pc1 := 16) (pc := 15) k_S_same_15 rfl rfl ?_
      | refine T_aload_nN (pc1 := 16) (pc := 15) k_S_same_15 rfl rfl ?_
      | refine T_getR (pc1 := 19) (pc := 16) k_S_same_16 rfl f_S_10 rfl (by first | assumption | exact ga G (by decide) rfl | exact lgA LG (by omega)) (by first | assumption | exact gr G (by decide) rfl | exact lgR LG (by omega)) ?_
      | (refine T_cV (As := [_]) (d1 := 2) (pc1 := 22) (pc := 19) k_S_same_19 rfl (by decide) (Nat.le_of_ble_eq_true rfl) rfl o_La_takeFrom l_S_197 rfl (by first | assumption | exact ga G (by decide) rfl | exact lgA LG (by omega)) rfl (c_think G LG (by decide) ok okw hL (fun g' J2 G hg hJ2 hJ2L => ?_)) <;> try dsimp only [psh]))
    all_goals try (exfalso; exact hw hok)
    repeat' (first
      | ((first | refine T_aload_n (pc1 := 23) (pc := 22) k_S_same_22 rfl rfl ?_ | refine T_aload_nN (pc1 := 23) (pc := 22) k_S_same_22 rfl rfl ?_) <;> try (refine T_getR (pc1 := 26) (pc := 23) k_S_same_23 rfl f_S_36 rfl (by first | assumption | exact ga G (by decide) rfl | exact lgA LG (by omega)) (by first | assumption | exact gr G (by decide) rfl | exact lgR LG (by omega)) ?_ <;> try ((first | refine T_aload_n (pc1 := 27) (pc := 26) k_S_same_26 rfl rfl ?_ | refine T_aload_nN (pc1 := 27) (pc := 26) k_S_same_26 rfl rfl ?_) <;> try (refine T_getR (pc1 := 30) (pc := 27) k_S_same_27 rfl f_S_23 rfl (by first | assumption | exact ga G (by decide) rfl | exact lgA LG (by omega)) (by first | assumption | exact gr G (by decide) rfl | exact lgR LG (by omega)) ?_ <;> try (refine T_iload_n (pc1 := 31) (pc := 30) k_S_same_30 rfl rfl ?_ <;> try (refine T_iload_n (pc1 := 32) (pc := 31) k_S_same_31 rfl rfl ?_ <;> try ((refine T_cV (As := [_, _, _]) (d1 := 6) (pc1 := 35) (pc := 32) k_S_same_32 rfl (by decide) (Nat.le_of_ble_eq_true rfl) rfl o_Wr_go l_S_164 rfl (by first | assumption | exact ga G (by decide) rfl | exact lgA LG (by omega)) rfl (c_Wr_go G (land_41 G) ok hJ2L ha hb (fun J3 hJ3 hJ3L => ?_)) <;> try dsimp only [psh]) <;> try (refine T_pop (pc1 := 36) (pc := 35) k_S_same_35 rfl rfl ?_ <;> try (refine T_iconst (v := (nI 1)) (pc1 := 37) (pc := 36) k_S_same_36 rfl (by decide) ?_ <;> try (refine T_istore_n (pc1 := 38) (pc := 37) k_S_same_37 rfl (Nat.le_of_ble_eq_true rfl) ?_))))))))))
      | refine T_getR (pc1 := 26) (pc := 23) k_S_same_23 rfl f_S_36 rfl (by first | assumption | exact ga G (by decide) rfl | exact lgA LG (by omega)) (by first | assumption | exact gr G (by decide) rfl | exact lgR LG (by omega)) ?_
      | refine T_aload_n (pc1 := 27) (pc := 26) k_S_same_26 rfl rfl ?_
      | refine T_aload_nN (pc1 := 27) (pc := 26) k_S_same_26 rfl rfl ?_
      | refine T_getR (pc1 := 30) (pc := 27) k_S_same_27 rfl f_S_23 rfl (by first | assumption | exact ga G (by decide) rfl | exact lgA LG (by omega)) (by first | assumption | exact gr G (by decide) rfl | exact lgR LG (by omega)) ?_
      | refine T_iload_n (pc1 := 31) (pc := 30) k_S_same_30 rfl rfl ?_
      | refine T_iload_n (pc1 := 32) (pc := 31) k_S_same_31 rfl rfl ?_
      | (refine T_cV (As := [_, _, _]) (d1 := 6) (pc1 := 35) (pc := 32) k_S_same_32 rfl (by decide) (Nat.le_of_ble_eq_true rfl) rfl o_Wr_go l_S_164 rfl (by first | assumption | exact ga G (by decide) rfl | exact lgA LG (by omega)) rfl (c_Wr_go G (land_41 G) ok hJ2L ha hb (fun J3 hJ3 hJ3L => ?_)) <;> try dsimp only [psh])
      | refine T_pop (pc1 := 36) (pc := 35) k_S_same_35 rfl rfl ?_
      | refine T_iconst (v := (nI 1)) (pc1 := 37) (pc := 36) k_S_same_36 rfl (by decide) ?_
      | refine T_istore_n (pc1 := 38) (pc := 37) k_S_same_37 rfl (Nat.le_of_ble_eq_true rfl) ?_)
    exact loop 40 1 g' J3 (by omega) (by omega) G hg (fr_tr (fr_mono hJ2 (fun i hi => Or.inl hi)) (fr_mono hJ3 (fun i hi => Or.inl hi))) hJ3L rfl
  · rw [sameA, if_neg hok] at kk
    have kk := kk g I _ G GS_rf fr_rf rfl
    repeat' (first
      | (refine T_iload_n (pc1 := 1) (pc := 0) k_S_same_0 rfl rfl ?_ <;> try (refine T_iload_n (pc1 := 2) (pc := 1) k_S_same_1 rfl rfl ?_ <;> try ((refine T_cS (As := [_, _]) (d1 := 3) (pc1 := 5) (pc := 2) k_S_same_2 rfl (by decide) (Nat.le_of_ble_eq_true rfl) rfl o_S_areSpots l_S_73 rfl (c_S_areSpots (fun hw => ?_) (fun hw => ?_)) <;> try dsimp only [psh]) <;> try ((first | (with_reducible refine T_if_neN (tgt := 11) (pc1 := 8) (pc := 5) k_S_same_5 (by decide) (by decide) (by omega) (fun hc => ?_) (fun hc => ?_) <;> first | (exfalso; omega) | skip) | refine T_if_ne_t (tgt := 11) (pc := 5) k_S_same_5 rfl (by decide) ?_ | refine T_if_ne_f (tgt := 11) (pc1 := 8) (pc := 5) k_S_same_5 rfl rfl (by decide) ?_ | refine T_if_ne (tgt := 11) (pc1 := 8) (pc := 5) k_S_same_5 rfl rfl (fun hc => ?_) (fun hc => ?_))))))
      | (refine T_ldc (v := (-1000000001)) (pc1 := 10) (pc := 8) k_S_same_8 rfl c_S_81 ?_ <;> try (refine T_retI (pc := 10) k_S_same_10 rfl (by first | rfl | decide | assumption) ?_))
      | refine T_iload_n (pc1 := 2) (pc := 1) k_S_same_1 rfl rfl ?_
      | (refine T_cS (As := [_, _]) (d1 := 3) (pc1 := 5) (pc := 2) k_S_same_2 rfl (by decide) (Nat.le_of_ble_eq_true rfl) rfl o_S_areSpots l_S_73 rfl (c_S_areSpots (fun hw => ?_) (fun hw => ?_)) <;> try dsimp only [psh])
      | (with_reducible refine T_if_neN (tgt := 11) (pc1 := 8) (pc := 5) k_S_same_5 (by decide) (by decide) (by omega) (fun hc => ?_) (fun hc => ?_) <;> first | (exfalso; omega) | skip)
      | refine T_if_ne_t (tgt := 11) (pc := 5) k_S_same_5 rfl (by decide) ?_
      | refine T_if_ne_f (tgt := 11) (pc1 := 8) (pc := 5) k_S_same_5 rfl rfl (by decide) ?_
      | refine T_if_ne (tgt := 11) (pc1 := 8) (pc := 5) k_S_same_5 rfl rfl (fun hc => ?_) (fun hc => ?_)
      | refine T_retI (pc := 10) k_S_same_10 rfl (by first | rfl | decide | assumption) ?_)
    all_goals first | exact kk | contradiction
set_option maxHeartbeats 4000000 in
theorem c_S_minutesIfLookedAt {N : Row} {n tn b fr to0 : Nat} (G : GeoOK g) (ok : okL N n tn) (okw : okW N) (hL : LaR g I 1 N n tn) (hb : b < n) (hf : fr < 8) (ht : to0 < 8) (kk : ∀ g' J, GeoOK g' → GS 43 g g' → fre tf I J → K (some (.int (nI (lkM N n tn fr to0 b)))) g' J) : Cl 7 M_S_minutesIfLookedAt [.ref 0, .int (nI b), .int (nI fr), .int (nI to0)] g I K := by
  show Rl 7 M_S_minutesIfLookedAt 0 [some (.ref 0), some (.int (nI b)), some (.int (nI fr)), some (.int (nI to0)), none] [] g I K
  have h14 := ok.2.1
  have htk := tkk_eq ok hb
  repeat' (first
    | ((first | refine T_aload_n (pc1 := 1) (pc := 0) k_S_minutesIfLookedAt_0 rfl rfl ?_ | refine T_aload_nN (pc1 := 1) (pc := 0) k_S_minutesIfLookedAt_0 rfl rfl ?_) <;> try (refine T_getR (pc1 := 4) (pc := 1) k_S_minutesIfLookedAt_1 rfl f_S_23 rfl (by first | assumption | exact ga G (by decide) rfl | exact lgA LG (by omega)) (by first | assumption | exact gr G (by decide) rfl | exact lgR LG (by omega)) ?_ <;> try ((first | refine T_aload_n (pc1 := 5) (pc := 4) k_S_minutesIfLookedAt_4 rfl rfl ?_ | refine T_aload_nN (pc1 := 5) (pc := 4) k_S_minutesIfLookedAt_4 rfl rfl ?_) <;> try (refine T_getR (pc1 := 8) (pc := 5) k_S_minutesIfLookedAt_5 rfl f_S_10 rfl (by first | assumption | exact ga G (by decide) rfl | exact lgA LG (by omega)) (by first | assumption | exact gr G (by decide) rfl | exact lgR LG (by omega)) ?_ <;> try ((refine T_cV (As := [_]) (d1 := 2) (pc1 := 11) (pc := 8) k_S_minutesIfLookedAt_8 rfl (by decide) (Nat.le_of_ble_eq_true rfl) rfl o_La_takeFrom l_S_197 rfl (by first | assumption | exact ga G (by decide) rfl | exact lgA LG (by omega)) rfl (c_think G (land_1 G) (by decide) ok okw hL (fun g' J2 G hg hJ2 hJ2L => ?_)) <;> try dsimp only [psh]))))))
    | refine T_getR (pc1 := 4) (pc := 1) k_S_minutesIfLookedAt_1 rfl f_S_23 rfl (by first | assumption | exact ga G (by decide) rfl | exact lgA LG (by omega)) (by first | assumption | exact gr G (by decide) rfl | exact lgR LG (by omega)) ?_
    | refine T_aload_n (pc1 := 5) (pc := 4) k_S_minutesIfLookedAt_4 rfl rfl ?_
    | refine T_aload_nN (pc1 := 5) (pc := 4) k_S_minutesIfLookedAt_4 rfl rfl ?_
    | refine T_getR (pc1 := 8) (pc := 5) k_S_minutesIfLookedAt_5 rfl f_S_10 rfl (by first | assumption | exact ga G (by decide) rfl | exact lgA LG (by omega)) (by first | assumption | exact gr G (by decide) rfl | exact lgR LG (by omega)) ?_
    | (refine T_cV (As := [_]) (d1 := 2) (pc1 := 11) (pc := 8) k_S_minutesIfLookedAt_8 rfl (by decide) (Nat.le_of_ble_eq_true rfl) rfl o_La_takeFrom l_S_197 rfl (by first | assumption | exact ga G (by decide) rfl | exact lgA LG (by omega)) rfl (c_think G (land_1 G) (by decide) ok okw hL (fun g' J2 G hg hJ2 hJ2L => ?_)) <;> try dsimp only [psh]))
  have LG := land_41 G
  have gb := lgA LG (show b < 14 by omega)
  have rb := lgR LG (show b < 14 by omega)
  repeat' (first
    | ((first | refine T_aload_n (pc1 := 12) (pc := 11) k_S_minutesIfLookedAt_11 rfl rfl ?_ | refine T_aload_nN (pc1 := 12) (pc := 11) k_S_minutesIfLookedAt_11 rfl rfl ?_) <;> try (refine T_getR (pc1 := 15) (pc := 12) k_S_minutesIfLookedAt_12 rfl f_S_23 rfl (by first | assumption | exact ga G (by decide) rfl | exact lgA LG (by omega)) (by first | assumption | exact gr G (by decide) rfl | exact lgR LG (by omega)) ?_ <;> try (refine T_getR (pc1 := 18) (pc := 15) k_S_minutesIfLookedAt_15 rfl f_S_93 rfl (by first | assumption | exact ga G (by decide) rfl | exact lgA LG (by omega)) (by first | assumption | exact gr G (by decide) rfl | exact lgR LG (by omega)) ?_ <;> try (refine T_iload_n (pc1 := 19) (pc := 18) k_S_minutesIfLookedAt_18 rfl rfl ?_ <;> try ((first | refine T_aaldQ (e0 := 4) (pc1 := 20) (pc := 19) k_S_minutesIfLookedAt_19 rfl (by first | assumption | exact ga G (by decide) rfl | exact lgA LG (by omega)) (by decide) (by omega) (by omega) (by first | assumption | exact gr G (by decide) rfl | exact lgR LG (by omega)) ?_ | refine T_aaldQ (e0 := 0) (pc1 := 20) (pc := 19) k_S_minutesIfLookedAt_19 rfl (by first | assumption | exact ga G (by decide) rfl | exact lgA LG (by omega)) (by decide) (by omega) (by omega) (by first | assumption | exact gr G (by decide) rfl | exact lgR LG (by omega)) ?_ | refine T_aaldQ (e0 := 1) (pc1 := 20) (pc := 19) k_S_minutesIfLookedAt_19 rfl (by first | assumption | exact ga G (by decide) rfl | exact lgA LG (by omega)) (by decide) (by omega) (by omega) (by first | assumption | exact gr G (by decide) rfl | exact lgR LG (by omega)) ?_ | refine T_aaldQ (e0 := 2) (pc1 := 20) (pc := 19) k_S_minutesIfLookedAt_19 rfl (by first | assumption | exact ga G (by decide) rfl | exact lgA LG (by omega)) (by decide) (by omega) (by omega) (by first | assumption | exact gr G (by decide) rfl | exact lgR LG (by omega)) ?_ | refine T_aaldQ (e0 := 3) (pc1 := 20) (pc := 19) k_S_minutesIfLookedAt_19 rfl (by first | assumption | exact ga G (by decide) rfl | exact lgA LG (by omega)) (by decide) (by omega) (by omega) (by first | assumption | exact gr G (by decide) rfl | exact lgR LG (by omega)) ?_) <;> try ((first | refine T_astore (pc1 := 22) (pc := 20) k_S_minutesIfLookedAt_20 rfl (Nat.le_of_ble_eq_true rfl) ?_ | refine T_astoreN (pc1 := 22) (pc := 20) k_S_minutesIfLookedAt_20 rfl (Nat.le_of_ble_eq_true rfl) ?_) <;> try ((first | refine T_aload (pc1 := 24) (pc := 22) k_S_minutesIfLookedAt_22 rfl rfl ?_ | refine T_aloadN (pc1 := 24) (pc := 22) k_S_minutesIfLookedAt_22 rfl rfl ?_) <;> try ((first | refine T_aload_n (pc1 := 25) (pc := 24) k_S_minutesIfLookedAt_24 rfl rfl ?_ | refine T_aload_nN (pc1 := 25) (pc := 24) k_S_minutesIfLookedAt_24 rfl rfl ?_) <;> try (refine T_getR (pc1 := 28) (pc := 25) k_S_minutesIfLookedAt_25 rfl f_S_23 rfl (by first | assumption | exact ga G (by decide) rfl | exact lgA LG (by omega)) (by first | assumption | exact gr G (by decide) rfl | exact lgR LG (by omega)) ?_ <;> try ((first | refine T_aload (pc1 := 30) (pc := 28) k_S_minutesIfLookedAt_28 rfl rfl ?_ | refine T_aloadN (pc1 := 30) (pc := 28) k_S_minutesIfLookedAt_28 rfl rfl ?_) <;> try ((refine T_cV (As := [_]) (d1 := 4) (pc1 := 33) (pc := 30) k_S_minutesIfLookedAt_30 rfl (by decide) (Nat.le_of_ble_eq_true rfl) rfl o_La_takes l_S_117 rfl (by first | assumption | exact ga G (by decide) rfl | exact lgA LG (by omega)) rfl (c_La_takesN LG ok hJ2L.1 hJ2L.2.1 hb (fun J3 hJ3 => ?_)) <;> try dsimp only [psh]) <;> try (refine T_sipush (v := (nI 999)) (pc1 := 36) (pc := 33) k_S_minutesIfLookedAt_33 rfl (by decide) ?_ <;> try ((first | refine T_mminV (pc1 := 39) (pc := 36) k_S_minutesIfLookedAt_36 rfl l_S_152 (by decide) (Nat.le_of_ble_eq_true rfl) (by with_reducible rfl) (by with_reducible rfl) (by omega) (by omega) ?_ | refine T_mmin (pc1 := 39) (pc := 36) k_S_minutesIfLookedAt_36 rfl l_S_152 (by decide) (Nat.le_of_ble_eq_true rfl) ?_) <;> try (refine T_putI (pc1 := 42) (pc := 39) k_S_minutesIfLookedAt_39 rfl f_S_114 rfl (by first | assumption | exact ga G (by decide) rfl | exact lgA LG (by omega)) (by first | rfl | decide | assumption) (by first | rfl | decide | assumption) ?_))))))))))))))
    | refine T_getR (pc1 := 15) (pc := 12) k_S_minutesIfLookedAt_12 rfl f_S_23 rfl (by first | assumption | exact ga G (by decide) rfl | exact lgA LG (by omega)) (by first | assumption | exact gr G (by decide) rfl | exact lgR LG (by omega)) ?_
    | refine T_getR (pc1 := 18) (pc := 15) k_S_minutesIfLookedAt_15 rfl f_S_93 rfl (by first | assumption | exact ga G (by decide) rfl | exact lgA LG (by omega)) (by first | assumption | exact gr G (by decide) rfl | exact lgR LG (by omega)) ?_
    | refine T_iload_n (pc1 := 19) (pc := 18) k_S_minutesIfLookedAt_18 rfl rfl ?_
    | refine T_aaldQ (e0 := 4) (pc1 := 20) (pc := 19) k_S_minutesIfLookedAt_19 rfl (by first | assumption | exact ga G (by decide) rfl | exact lgA LG (by omega)) (by decide) (by omega) (by omega) (by first | assumption | exact gr G (by decide) rfl | exact lgR LG (by omega)) ?_
    | refine T_aaldQ (e0 := 0) (pc1 := 20) (pc := 19) k_S_minutesIfLookedAt_19 rfl (by first | assumption | exact ga G (by decide) rfl | exact lgA LG (by omega)) (by decide) (by omega) (by omega) (by first | assumption | exact gr G (by decide) rfl | exact lgR LG (by omega)) ?_
    | refine T_aaldQ (e0 := 1) (pc1 := 20) (pc := 19) k_S_minutesIfLookedAt_19 rfl (by first | assumption | exact ga G (by decide) rfl | exact lgA LG (by omega)) (by decide) (by omega) (by omega) (by first | assumption | exact gr G (by decide) rfl | exact lgR LG (by omega)) ?_
    | refine T_aaldQ (e0 := 2) (pc1 := 20) (pc := 19) k_S_minutesIfLookedAt_19 rfl (by first | assumption | exact ga G (by decide) rfl | exact lgA LG (by omega)) (by decide) (by omega) (by omega) (by first | assumption | exact gr G (by decide) rfl | exact lgR LG (by omega)) ?_
    | refine T_aaldQ (e0 := 3) (pc1 := 20) (pc := 19) k_S_minutesIfLookedAt_19 rfl (by first | assumption | exact ga G (by decide) rfl | exact lgA LG (by omega)) (by decide) (by omega) (by omega) (by first | assumption | exact gr G (by decide) rfl | exact lgR LG (by omega)) ?_
    | refine T_astore (pc1 := 22) (pc := 20) k_S_minutesIfLookedAt_20 rfl (Nat.le_of_ble_eq_true rfl) ?_
    | refine T_astoreN (pc1 := 22) (pc := 20) k_S_minutesIfLookedAt_20 rfl (Nat.le_of_ble_eq_true rfl) ?_
    | refine T_aload (pc1 := 24) (pc := 22) k_S_minutesIfLookedAt_22 rfl rfl ?_
    | refine T_aloadN (pc1 := 24) (pc := 22) k_S_minutesIfLookedAt_22 rfl rfl ?_
    | refine T_aload_n (pc1 := 25) (pc := 24) k_S_minutesIfLookedAt_24 rfl rfl ?_
    | refine T_aload_nN (pc1 := 25) (pc := 24) k_S_minutesIfLookedAt_24 rfl rfl ?_
    | refine T_getR (pc1 := 28) (pc := 25) k_S_minutesIfLookedAt_25 rfl f_S_23 rfl (by first | assumption | exact ga G (by decide) rfl | exact lgA LG (by omega)) (by first | assumption | exact gr G (by decide) rfl | exact lgR LG (by omega)) ?_
    | refine T_aload (pc1 := 30) (pc := 28) k_S_minutesIfLookedAt_28 rfl rfl ?_
    | refine T_aloadN (pc1 := 30) (pc := 28) k_S_minutesIfLookedAt_28 rfl rfl ?_
    | (refine T_cV (As := [_]) (d1 := 4) (pc1 := 33) (pc := 30) k_S_minutesIfLookedAt_30 rfl (by decide) (Nat.le_of_ble_eq_true rfl) rfl o_La_takes l_S_117 rfl (by first | assumption | exact ga G (by decide) rfl | exact lgA LG (by omega)) rfl (c_La_takesN LG ok hJ2L.1 hJ2L.2.1 hb (fun J3 hJ3 => ?_)) <;> try dsimp only [psh])
    | refine T_sipush (v := (nI 999)) (pc1 := 36) (pc := 33) k_S_minutesIfLookedAt_33 rfl (by decide) ?_
    | refine T_mminV (pc1 := 39) (pc := 36) k_S_minutesIfLookedAt_36 rfl l_S_152 (by decide) (Nat.le_of_ble_eq_true rfl) (by with_reducible rfl) (by with_reducible rfl) (by omega) (by omega) ?_
    | refine T_mmin (pc1 := 39) (pc := 36) k_S_minutesIfLookedAt_36 rfl l_S_152 (by decide) (Nat.le_of_ble_eq_true rfl) ?_
    | refine T_putI (pc1 := 42) (pc := 39) k_S_minutesIfLookedAt_39 rfl f_S_114 rfl (by first | assumption | exact ga G (by decide) rfl | exact lgA LG (by omega)) (by first | rfl | decide | assumption) (by first | rfl | decide | assumption) ?_)
  have l3 := LR_fr hJ2L h14 (r := 3) GS_rf (by decide) (by decide) hJ3 (fun i hi q => by unfold lnd at hi; unfold stk at q; omega) (fun i hi => Or.inr hi)
  have l4 := LR_bit (v := nI (min 999 (tkk N tn b))) l3 ok okw (by decide) hb (show 5 < 6 by decide)
  have ok4 := okL_said (s := min 999 (tkk N tn b)) ok hb (by omega)
  rw [Nat.min_comm]
  repeat' (first
    | ((first | refine T_aload_n (pc1 := 43) (pc := 42) k_S_minutesIfLookedAt_42 rfl rfl ?_ | refine T_aload_nN (pc1 := 43) (pc := 42) k_S_minutesIfLookedAt_42 rfl rfl ?_) <;> try (refine T_getR (pc1 := 46) (pc := 43) k_S_minutesIfLookedAt_43 rfl f_S_36 rfl (by first | assumption | exact ga G (by decide) rfl | exact lgA LG (by omega)) (by first | assumption | exact gr G (by decide) rfl | exact lgR LG (by omega)) ?_ <;> try ((first | refine T_aload_n (pc1 := 47) (pc := 46) k_S_minutesIfLookedAt_46 rfl rfl ?_ | refine T_aload_nN (pc1 := 47) (pc := 46) k_S_minutesIfLookedAt_46 rfl rfl ?_) <;> try (refine T_getR (pc1 := 50) (pc := 47) k_S_minutesIfLookedAt_47 rfl f_S_23 rfl (by first | assumption | exact ga G (by decide) rfl | exact lgA LG (by omega)) (by first | assumption | exact gr G (by decide) rfl | exact lgR LG (by omega)) ?_ <;> try (refine T_iload_n (pc1 := 51) (pc := 50) k_S_minutesIfLookedAt_50 rfl rfl ?_ <;> try (refine T_iload_n (pc1 := 52) (pc := 51) k_S_minutesIfLookedAt_51 rfl rfl ?_ <;> try ((refine T_cV (As := [_, _, _]) (d1 := 6) (pc1 := 55) (pc := 52) k_S_minutesIfLookedAt_52 rfl (by decide) (Nat.le_of_ble_eq_true rfl) rfl o_Wr_go l_S_164 rfl (by first | assumption | exact ga G (by decide) rfl | exact lgA LG (by omega)) rfl (c_Wr_go G LG ok4 l4 hf ht (fun J5 hJ5 hJ5L => ?_)) <;> try dsimp only [psh]) <;> try (refine T_retI (pc := 55) k_S_minutesIfLookedAt_55 rfl (by first | rfl | decide | assumption) ?_))))))))
    | refine T_getR (pc1 := 46) (pc := 43) k_S_minutesIfLookedAt_43 rfl f_S_36 rfl (by first | assumption | exact ga G (by decide) rfl | exact lgA LG (by omega)) (by first | assumption | exact gr G (by decide) rfl | exact lgR LG (by omega)) ?_
    | refine T_aload_n (pc1 := 47) (pc := 46) k_S_minutesIfLookedAt_46 rfl rfl ?_
    | refine T_aload_nN (pc1 := 47) (pc := 46) k_S_minutesIfLookedAt_46 rfl rfl ?_
    | refine T_getR (pc1 := 50) (pc := 47) k_S_minutesIfLookedAt_47 rfl f_S_23 rfl (by first | assumption | exact ga G (by decide) rfl | exact lgA LG (by omega)) (by first | assumption | exact gr G (by decide) rfl | exact lgR LG (by omega)) ?_
    | refine T_iload_n (pc1 := 51) (pc := 50) k_S_minutesIfLookedAt_50 rfl rfl ?_
    | refine T_iload_n (pc1 := 52) (pc := 51) k_S_minutesIfLookedAt_51 rfl rfl ?_
    | (refine T_cV (As := [_, _, _]) (d1 := 6) (pc1 := 55) (pc := 52) k_S_minutesIfLookedAt_52 rfl (by decide) (Nat.le_of_ble_eq_true rfl) rfl o_Wr_go l_S_164 rfl (by first | assumption | exact ga G (by decide) rfl | exact lgA LG (by omega)) rfl (c_Wr_go G LG ok4 l4 hf ht (fun J5 hJ5 hJ5L => ?_)) <;> try dsimp only [psh])
    | refine T_retI (pc := 55) k_S_minutesIfLookedAt_55 rfl (by first | rfl | decide | assumption) ?_)
  refine kk g' J5 G hg (fr_tr (fr_mono hJ2 (fun i hi => Or.inl hi)) (fr_tr (fr_pI (fr_mono hJ3 (fun i hi => Or.inl (Or.inr (Or.inr (Or.inr hi))))) (Or.inl (Or.inl ⟨by omega, by omega⟩))) (fr_mono hJ5 (fun i hi => Or.inl hi))))
set_option maxHeartbeats 4000000 in
theorem c_S_look {N : Row} {n tn : Nat} {f t w : Int32} (G : GeoOK g) (ok : okL N n tn) (okw : okW N) (hL : LaR g I 1 N n tn) (kk : ∀ g' J r, GeoOK g' → GS 43 g g' → fre tf I J → r = lookA N n tn f t w → K (some (.int r)) g' J) : Cl 8 M_S_look [.ref 0, .int f, .int t, .int w] g I K := by
  show Rl 8 M_S_look 0 [some (.ref 0), some (.int f), some (.int t), some (.int w), none, none, none, none] [] g I K
  have h14 := ok.2.1
  have e0 : (nI 0).toInt = 0 := rfl
  have e1 : (nI 1).toInt = 1 := rfl
  by_cases hok : (rg 8 f ∧ rg 8 t) ∧ rg 2 w
  · rw [lookA, if_pos hok] at kk
    obtain ⟨a, ha, rfl⟩ := rg_of hok.1.1 (by omega)
    obtain ⟨c, hc8, rfl⟩ := rg_of hok.1.2 (by omega)
    obtain ⟨x, hx, rfl⟩ := rg_of hok.2 (by omega)
    have ex := nI_toInt (n := x) (by omega)
    rw [nI_clamp (by omega), nI_clamp (by omega)] at kk
    have loop : ∀ q b b0 l0 o7 (g' : Geo) (J : IM), b + q = n → GeoOK g' → GS 43 g g' → fre tf I J → LaR g' J 1 N n tn → (match lkS N n tn a c b with | none => b0 = cNONE ∧ l0 = cNONE | some p => b0 = nI p.1 ∧ l0 = nI p.2 ∧ p.1 < 14 ∧ p.2 ≤ 120000) → Rl 8 M_S_look 31 [some (.ref 0), some (.int (nI a)), some (.int (nI c)), some (.int (nI x)), some (.int b0), some (.int l0), some (.int (nI b)), o7] [] g' J K := by
      intro q
      induction q with
      | zero =>
        intro b b0 l0 o7 g' J hb G hg hJ hJL hs
        have hb : b = n := by omega
        subst hb
        have b1 := hJL.2.1.1
        have kk := kk g' J _ G hg hJ rfl
        cases hl : lkS N b tn a c b with
        | none =>
          rw [hl] at hs kk
          dsimp only at hs kk
          obtain ⟨rfl, rfl⟩ := hs
          repeat' (first
            | (refine T_iload (pc1 := 33) (pc := 31) k_S_look_31 rfl rfl ?_ <;> try ((first | refine T_aload_n (pc1 := 34) (pc := 33) k_S_look_33 rfl rfl ?_ | refine T_aload_nN (pc1 := 34) (pc := 33) k_S_look_33 rfl rfl ?_) <;> try (refine T_getR (pc1 := 37) (pc := 34) k_S_look_34 rfl f_S_10 rfl (by first | assumption | exact ga G (by decide) rfl | exact lgA LG (by omega)) (by first | assumption | exact gr G (by decide) rfl | exact lgR LG (by omega)) ?_ <;> try (refine T_getV (pc1 := 40) (pc := 37) k_S_look_37 rfl f_S_82 rfl (by first | assumption | exact ga G (by decide) rfl | exact lgA LG (by omega)) (by first | assumption | (simp (disch := omega) only [pI_eq, pI_row, pI_col, va_up_self, va_up_ne, ne_eq, not_false_eq_true] <;> rfl) | rfl) ?_ <;> try ((first | (with_reducible refine T_icmp_geN (tgt := 81) (pc1 := 43) (pc := 40) k_S_look_40 (by decide) (by decide) (by omega) (by omega) (fun hc => ?_) (fun hc => ?_) <;> first | (exfalso; omega) | skip) | refine T_icmp_ge_t (tgt := 81) (pc := 40) k_S_look_40 rfl (by decide) ?_ | refine T_icmp_ge_f (tgt := 81) (pc1 := 43) (pc := 40) k_S_look_40 rfl rfl (by decide) ?_ | refine T_icmp_ge (tgt := 81) (pc1 := 43) (pc := 40) k_S_look_40 rfl rfl (fun hc => ?_) (fun hc => ?_)))))))
            | (refine T_iload_n (pc1 := 82) (pc := 81) k_S_look_81 rfl rfl ?_ <;> try ((first | (with_reducible refine T_if_neN (tgt := 90) (pc1 := 85) (pc := 82) k_S_look_82 (by decide) (by decide) (by omega) (fun hc => ?_) (fun hc => ?_) <;> first | (exfalso; omega) | skip) | refine T_if_ne_t (tgt := 90) (pc := 82) k_S_look_82 rfl (by decide) ?_ | refine T_if_ne_f (tgt := 90) (pc1 := 85) (pc := 82) k_S_look_82 rfl rfl (by decide) ?_ | refine T_if_ne (tgt := 90) (pc1 := 85) (pc := 82) k_S_look_82 rfl rfl (fun hc => ?_) (fun hc => ?_))))
            | (refine T_iload (pc1 := 87) (pc := 85) k_S_look_85 rfl rfl ?_ <;> try (refine T_goto (tgt := 92) (pc := 87) k_S_look_87 rfl ?_))
            | (refine T_iload (pc1 := 92) (pc := 90) k_S_look_90 rfl rfl ?_)
            | (refine T_retI (pc := 92) k_S_look_92 rfl (by first | rfl | decide | assumption) ?_)
            | refine T_aload_n (pc1 := 34) (pc := 33) k_S_look_33 rfl rfl ?_
            | refine T_aload_nN (pc1 := 34) (pc := 33) k_S_look_33 rfl rfl ?_
            | refine T_getR (pc1 := 37) (pc := 34) k_S_look_34 rfl f_S_10 rfl (by first | assumption | exact ga G (by decide) rfl | exact lgA LG (by omega)) (by first | assumption | exact gr G (by decide) rfl | exact lgR LG (by omega)) ?_
            | refine T_getV (pc1 := 40) (pc := 37) k_S_look_37 rfl f_S_82 rfl (by first | assumption | exact ga G (by decide) rfl | exact lgA LG (by omega)) (by first | assumption | (simp (disch := omega) only [pI_eq, pI_row, pI_col, va_up_self, va_up_ne, ne_eq, not_false_eq_true] <;> rfl) | rfl) ?_
            | (with_reducible refine T_icmp_geN (tgt := 81) (pc1 := 43) (pc := 40) k_S_look_40 (by decide) (by decide) (by omega) (by omega) (fun hc => ?_) (fun hc => ?_) <;> first | (exfalso; omega) | skip)
            | refine T_icmp_ge_t (tgt := 81) (pc := 40) k_S_look_40 rfl (by decide) ?_
            | refine T_icmp_ge_f (tgt := 81) (pc1 := 43) (pc := 40) k_S_look_40 rfl rfl (by decide) ?_
            | refine T_icmp_ge (tgt := 81) (pc1 := 43) (pc := 40) k_S_look_40 rfl rfl (fun hc => ?_) (fun hc => ?_)
            | (with_reducible refine T_if_neN (tgt := 90) (pc1 := 85) (pc := 82) k_S_look_82 (by decide) (by decide) (by omega) (fun hc => ?_) (fun hc => ?_) <;> first | (exfalso; omega) | skip)
            | refine T_if_ne_t (tgt := 90) (pc := 82) k_S_look_82 rfl (by decide) ?_
            | refine T_if_ne_f (tgt := 90) (pc1 := 85) (pc := 82) k_S_look_82 rfl rfl (by decide) ?_
            | refine T_if_ne (tgt := 90) (pc1 := 85) (pc := 82) k_S_look_82 rfl rfl (fun hc => ?_) (fun hc => ?_)
            | refine T_goto (tgt := 92) (pc := 87) k_S_look_87 rfl ?_)
          all_goals exact kk
        | some p =>
          rw [hl] at hs kk
          dsimp only at hs kk
          obtain ⟨rfl, rfl, hp1, hp2⟩ := hs
          repeat' (first
            | (refine T_iload (pc1 := 33) (pc := 31) k_S_look_31 rfl rfl ?_ <;> try ((first | refine T_aload_n (pc1 := 34) (pc := 33) k_S_look_33 rfl rfl ?_ | refine T_aload_nN (pc1 := 34) (pc := 33) k_S_look_33 rfl rfl ?_) <;> try (refine T_getR (pc1 := 37) (pc := 34) k_S_look_34 rfl f_S_10 rfl (by first | assumption | exact ga G (by decide) rfl | exact lgA LG (by omega)) (by first | assumption | exact gr G (by decide) rfl | exact lgR LG (by omega)) ?_ <;> try (refine T_getV (pc1 := 40) (pc := 37) k_S_look_37 rfl f_S_82 rfl (by first | assumption | exact ga G (by decide) rfl | exact lgA LG (by omega)) (by first | assumption | (simp (disch := omega) only [pI_eq, pI_row, pI_col, va_up_self, va_up_ne, ne_eq, not_false_eq_true] <;> rfl) | rfl) ?_ <;> try ((first | (with_reducible refine T_icmp_geN (tgt := 81) (pc1 := 43) (pc := 40) k_S_look_40 (by decide) (by decide) (by omega) (by omega) (fun hc => ?_) (fun hc => ?_) <;> first | (exfalso; omega) | skip) | refine T_icmp_ge_t (tgt := 81) (pc := 40) k_S_look_40 rfl (by decide) ?_ | refine T_icmp_ge_f (tgt := 81) (pc1 := 43) (pc := 40) k_S_look_40 rfl rfl (by decide) ?_ | refine T_icmp_ge (tgt := 81) (pc1 := 43) (pc := 40) k_S_look_40 rfl rfl (fun hc => ?_) (fun hc => ?_)))))))
            | (refine T_iload_n (pc1 := 82) (pc := 81) k_S_look_81 rfl rfl ?_ <;> try ((first | (with_reducible refine T_if_neN (tgt := 90) (pc1 := 85) (pc := 82) k_S_look_82 (by decide) (by decide) (by omega) (fun hc => ?_) (fun hc => ?_) <;> first | (exfalso; omega) | skip) | refine T_if_ne_t (tgt := 90) (pc := 82) k_S_look_82 rfl (by decide) ?_ | refine T_if_ne_f (tgt := 90) (pc1 := 85) (pc := 82) k_S_look_82 rfl rfl (by decide) ?_ | refine T_if_ne (tgt := 90) (pc1 := 85) (pc := 82) k_S_look_82 rfl rfl (fun hc => ?_) (fun hc => ?_))))
            | (refine T_iload (pc1 := 87) (pc := 85) k_S_look_85 rfl rfl ?_ <;> try (refine T_goto (tgt := 92) (pc := 87) k_S_look_87 rfl ?_))
            | (refine T_iload (pc1 := 92) (pc := 90) k_S_look_90 rfl rfl ?_)
            | (refine T_retI (pc := 92) k_S_look_92 rfl (by first | rfl | decide | assumption) ?_)
            | refine T_aload_n (pc1 := 34) (pc := 33) k_S_look_33 rfl rfl ?_
            | refine T_aload_nN (pc1 := 34) (pc := 33) k_S_look_33 rfl rfl ?_
            | refine T_getR (pc1 := 37) (pc := 34) k_S_look_34 rfl f_S_10 rfl (by first | assumption | exact ga G (by decide) rfl | exact lgA LG (by omega)) (by first | assumption | exact gr G (by decide) rfl | exact lgR LG (by omega)) ?_
            | refine T_getV (pc1 := 40) (pc := 37) k_S_look_37 rfl f_S_82 rfl (by first | assumption | exact ga G (by decide) rfl | exact lgA LG (by omega)) (by first | assumption | (simp (disch := omega) only [pI_eq, pI_row, pI_col, va_up_self, va_up_ne, ne_eq, not_false_eq_true] <;> rfl) | rfl) ?_
            | (with_reducible refine T_icmp_geN (tgt := 81) (pc1 := 43) (pc := 40) k_S_look_40 (by decide) (by decide) (by omega) (by omega) (fun hc => ?_) (fun hc => ?_) <;> first | (exfalso; omega) | skip)
            | refine T_icmp_ge_t (tgt := 81) (pc := 40) k_S_look_40 rfl (by decide) ?_
            | refine T_icmp_ge_f (tgt := 81) (pc1 := 43) (pc := 40) k_S_look_40 rfl rfl (by decide) ?_
            | refine T_icmp_ge (tgt := 81) (pc1 := 43) (pc := 40) k_S_look_40 rfl rfl (fun hc => ?_) (fun hc => ?_)
            | (with_reducible refine T_if_neN (tgt := 90) (pc1 := 85) (pc := 82) k_S_look_82 (by decide) (by decide) (by omega) (fun hc => ?_) (fun hc => ?_) <;> first | (exfalso; omega) | skip)
            | refine T_if_ne_t (tgt := 90) (pc := 82) k_S_look_82 rfl (by decide) ?_
            | refine T_if_ne_f (tgt := 90) (pc1 := 85) (pc := 82) k_S_look_82 rfl rfl (by decide) ?_
            | refine T_if_ne (tgt := 90) (pc1 := 85) (pc := 82) k_S_look_82 rfl rfl (fun hc => ?_) (fun hc => ?_)
            | refine T_goto (tgt := 92) (pc := 87) k_S_look_87 rfl ?_)
          · rw [if_neg (fun q => by have := (nI_eq (by omega) (by omega)).mp q; omega)] at kk
            exact kk
          · rw [if_pos (by congr 1; omega)] at kk
            exact kk
      | succ q ih =>
        intro b b0 l0 o7 g' J hb G hg hJ hJL hs
        have hbn : b < n := by omega
        have b1 := hJL.2.1.1
        have htk := tkk_eq ok hbn
        have oks := okL_said (s := min 999 (tkk N tn b)) ok hbn (by omega)
        have ok5 : lkM N n tn a c b ≤ 120000 := (wkN_ok (fr := a) (to0 := c) oks ha hc8).2.2
        have ih := ih (b + 1)
        unfold lkS at ih hs
        rw [sel] at ih
        refine T_iload (pc1 := 33) (pc := 31) k_S_look_31 rfl rfl ?_
        repeat' (first
          | ((first | refine T_aload_n (pc1 := 34) (pc := 33) k_S_look_33 rfl rfl ?_ | refine T_aload_nN (pc1 := 34) (pc := 33) k_S_look_33 rfl rfl ?_) <;> try (refine T_getR (pc1 := 37) (pc := 34) k_S_look_34 rfl f_S_10 rfl (by first | assumption | exact ga G (by decide) rfl | exact lgA LG (by omega)) (by first | assumption | exact gr G (by decide) rfl | exact lgR LG (by omega)) ?_ <;> try (refine T_getV (pc1 := 40) (pc := 37) k_S_look_37 rfl f_S_82 rfl (by first | assumption | exact ga G (by decide) rfl | exact lgA LG (by omega)) (by first | assumption | (simp (disch := omega) only [pI_eq, pI_row, pI_col, va_up_self, va_up_ne, ne_eq, not_false_eq_true] <;> rfl) | rfl) ?_ <;> try ((first | (with_reducible refine T_icmp_geN (tgt := 81) (pc1 := 43) (pc := 40) k_S_look_40 (by decide) (by decide) (by omega) (by omega) (fun hc => ?_) (fun hc => ?_) <;> first | (exfalso; omega) | skip) | refine T_icmp_ge_t (tgt := 81) (pc := 40) k_S_look_40 rfl (by decide) ?_ | refine T_icmp_ge_f (tgt := 81) (pc1 := 43) (pc := 40) k_S_look_40 rfl rfl (by decide) ?_ | refine T_icmp_ge (tgt := 81) (pc1 := 43) (pc := 40) k_S_look_40 rfl rfl (fun hc => ?_) (fun hc => ?_))))))
          | ((first | refine T_aload_n (pc1 := 44) (pc := 43) k_S_look_43 rfl rfl ?_ | refine T_aload_nN (pc1 := 44) (pc := 43) k_S_look_43 rfl rfl ?_) <;> try (refine T_iload (pc1 := 46) (pc := 44) k_S_look_44 rfl rfl ?_ <;> try (refine T_iload_n (pc1 := 47) (pc := 46) k_S_look_46 rfl rfl ?_ <;> try (refine T_iload_n (pc1 := 48) (pc := 47) k_S_look_47 rfl rfl ?_ <;> try ((refine T_cV (As := [_, _, _]) (d1 := 7) (pc1 := 51) (pc := 48) k_S_look_48 rfl (by decide) (Nat.le_of_ble_eq_true rfl) rfl o_S_minutesIfLookedAt l_S_208 rfl (by first | assumption | exact ga G (by decide) rfl | exact lgA LG (by omega)) rfl (c_S_minutesIfLookedAt G ok okw hJL hbn ha hc8 (fun g2 J2 G hg2 hJ2 => ?_)) <;> try dsimp only [psh]))))))
          | refine T_getR (pc1 := 37) (pc := 34) k_S_look_34 rfl f_S_10 rfl (by first | assumption | exact ga G (by decide) rfl | exact lgA LG (by omega)) (by first | assumption | exact gr G (by decide) rfl | exact lgR LG (by omega)) ?_
          | refine T_getV (pc1 := 40) (pc := 37) k_S_look_37 rfl f_S_82 rfl (by first | assumption | exact ga G (by decide) rfl | exact lgA LG (by omega)) (by first | assumption | (simp (disch := omega) only [pI_eq, pI_row, pI_col, va_up_self, va_up_ne, ne_eq, not_false_eq_true] <;> rfl) | rfl) ?_
          | (with_reducible refine T_icmp_geN (tgt := 81) (pc1 := 43) (pc := 40) k_S_look_40 (by decide) (by decide) (by omega) (by omega) (fun hc => ?_) (fun hc => ?_) <;> first | (exfalso; omega) | skip)
          | refine T_icmp_ge_t (tgt := 81) (pc := 40) k_S_look_40 rfl (by decide) ?_
          | refine T_icmp_ge_f (tgt := 81) (pc1 := 43) (pc := 40) k_S_look_40 rfl rfl (by decide) ?_
          | refine T_icmp_ge (tgt := 81) (pc1 := 43) (pc := 40) k_S_look_40 rfl rfl (fun hc => ?_) (fun hc => ?_)
          | refine T_iload (pc1 := 46) (pc := 44) k_S_look_44 rfl rfl ?_
          | refine T_iload_n (pc1 := 47) (pc := 46) k_S_look_46 rfl rfl ?_
          | refine T_iload_n (pc1 := 48) (pc := 47) k_S_look_47 rfl rfl ?_
          | (refine T_cV (As := [_, _, _]) (d1 := 7) (pc1 := 51) (pc := 48) k_S_look_48 rfl (by decide) (Nat.le_of_ble_eq_true rfl) rfl o_S_minutesIfLookedAt l_S_208 rfl (by first | assumption | exact ga G (by decide) rfl | exact lgA LG (by omega)) rfl (c_S_minutesIfLookedAt G ok okw hJL hbn ha hc8 (fun g2 J2 G hg2 hJ2 => ?_)) <;> try dsimp only [psh]))
        all_goals try (exfalso; omega)
        have hJL2 := LR_fr hJL h14 hg2 (by decide) (by decide) hJ2 (fun i hi q => tf_l q hi) (fun i => tf_s)
        cases hl : sel (fun a b => decide (a < b)) (lkM N n tn a c) b with
        | none =>
          rw [hl] at hs ih
          dsimp only at hs ih
          obtain ⟨rfl, rfl⟩ := hs
          repeat' (first
            | (refine T_istore (pc1 := 53) (pc := 51) k_S_look_51 rfl (Nat.le_of_ble_eq_true rfl) ?_ <;> try (refine T_iload (pc1 := 55) (pc := 53) k_S_look_53 rfl rfl ?_ <;> try (refine T_ldc (v := (-1000000005)) (pc1 := 57) (pc := 55) k_S_look_55 rfl c_S_148 ?_ <;> try ((first | (with_reducible refine T_icmp_eqN (tgt := 67) (pc1 := 60) (pc := 57) k_S_look_57 (by decide) (by decide) (by omega) (by omega) (fun hc => ?_) (fun hc => ?_) <;> first | (exfalso; omega) | skip) | refine T_icmp_eq_t (tgt := 67) (pc := 57) k_S_look_57 rfl (by decide) ?_ | refine T_icmp_eq_f (tgt := 67) (pc1 := 60) (pc := 57) k_S_look_57 rfl rfl (by decide) ?_ | refine T_icmp_eq (tgt := 67) (pc1 := 60) (pc := 57) k_S_look_57 rfl rfl (fun hc => ?_) (fun hc => ?_))))))
            | (refine T_iload (pc1 := 62) (pc := 60) k_S_look_60 rfl rfl ?_ <;> try (refine T_iload (pc1 := 64) (pc := 62) k_S_look_62 rfl rfl ?_ <;> try ((first | (with_reducible refine T_icmp_geN (tgt := 75) (pc1 := 67) (pc := 64) k_S_look_64 (by decide) (by decide) (by omega) (by omega) (fun hc => ?_) (fun hc => ?_) <;> first | (exfalso; omega) | skip) | refine T_icmp_ge_t (tgt := 75) (pc := 64) k_S_look_64 rfl (by decide) ?_ | refine T_icmp_ge_f (tgt := 75) (pc1 := 67) (pc := 64) k_S_look_64 rfl rfl (by decide) ?_ | refine T_icmp_ge (tgt := 75) (pc1 := 67) (pc := 64) k_S_look_64 rfl rfl (fun hc => ?_) (fun hc => ?_)))))
            | (refine T_iload (pc1 := 69) (pc := 67) k_S_look_67 rfl rfl ?_ <;> try (refine T_istore (pc1 := 71) (pc := 69) k_S_look_69 rfl (Nat.le_of_ble_eq_true rfl) ?_ <;> try (refine T_iload (pc1 := 73) (pc := 71) k_S_look_71 rfl rfl ?_ <;> try (refine T_istore (pc1 := 75) (pc := 73) k_S_look_73 rfl (Nat.le_of_ble_eq_true rfl) ?_))))
            | ((first | refine T_iincN (b := 1) (pc1 := 78) (pc := 75) k_S_look_75 rfl rfl (by decide) ?_ | refine T_iinc (v := (nI 1)) (pc1 := 78) (pc := 75) k_S_look_75 rfl rfl (by decide) ?_) <;> try (refine T_goto (tgt := 31) (pc := 78) k_S_look_78 rfl ?_))
            | refine T_iload (pc1 := 55) (pc := 53) k_S_look_53 rfl rfl ?_
            | refine T_ldc (v := (-1000000005)) (pc1 := 57) (pc := 55) k_S_look_55 rfl c_S_148 ?_
            | (with_reducible refine T_icmp_eqN (tgt := 67) (pc1 := 60) (pc := 57) k_S_look_57 (by decide) (by decide) (by omega) (by omega) (fun hc => ?_) (fun hc => ?_) <;> first | (exfalso; omega) | skip)
            | refine T_icmp_eq_t (tgt := 67) (pc := 57) k_S_look_57 rfl (by decide) ?_
            | refine T_icmp_eq_f (tgt := 67) (pc1 := 60) (pc := 57) k_S_look_57 rfl rfl (by decide) ?_
            | refine T_icmp_eq (tgt := 67) (pc1 := 60) (pc := 57) k_S_look_57 rfl rfl (fun hc => ?_) (fun hc => ?_)
            | refine T_iload (pc1 := 64) (pc := 62) k_S_look_62 rfl rfl ?_
            | (with_reducible refine T_icmp_geN (tgt := 75) (pc1 := 67) (pc := 64) k_S_look_64 (by decide) (by decide) (by omega) (by omega) (fun hc => ?_) (fun hc => ?_) <;> first | (exfalso; omega) | skip)
            | refine T_icmp_ge_t (tgt := 75) (pc := 64) k_S_look_64 rfl (by decide) ?_
            | refine T_icmp_ge_f (tgt := 75) (pc1 := 67) (pc := 64) k_S_look_64 rfl rfl (by decide) ?_
            | refine T_icmp_ge (tgt := 75) (pc1 := 67) (pc := 64) k_S_look_64 rfl rfl (fun hc => ?_) (fun hc => ?_)
            | refine T_istore (pc1 := 71) (pc := 69) k_S_look_69 rfl (Nat.le_of_ble_eq_true rfl) ?_
            | refine T_iload (pc1 := 73) (pc := 71) k_S_look_71 rfl rfl ?_
            | refine T_istore (pc1 := 75) (pc := 73) k_S_look_73 rfl (Nat.le_of_ble_eq_true rfl) ?_
            | refine T_goto (tgt := 31) (pc := 78) k_S_look_78 rfl ?_)
          exact ih _ _ _ g2 J2 (by omega) G (GS_tr hg hg2) (fr_tr hJ hJ2) hJL2 ⟨rfl, rfl, by omega, ok5⟩
        | some p =>
          rw [hl] at hs ih
          dsimp only at hs ih
          obtain ⟨rfl, rfl, hp1, hp2⟩ := hs
          repeat' (first
            | (refine T_istore (pc1 := 53) (pc := 51) k_S_look_51 rfl (Nat.le_of_ble_eq_true rfl) ?_ <;> try (refine T_iload (pc1 := 55) (pc := 53) k_S_look_53 rfl rfl ?_ <;> try (refine T_ldc (v := (-1000000005)) (pc1 := 57) (pc := 55) k_S_look_55 rfl c_S_148 ?_ <;> try (refine T_icmp_eq_f (tgt := 67) (pc1 := 60) (pc := 57) k_S_look_57 rfl rfl (cne_nI (by omega)) ?_))))
            | (refine T_iload (pc1 := 62) (pc := 60) k_S_look_60 rfl rfl ?_ <;> try (refine T_iload (pc1 := 64) (pc := 62) k_S_look_62 rfl rfl ?_ <;> try ((first | (with_reducible refine T_icmp_geN (tgt := 75) (pc1 := 67) (pc := 64) k_S_look_64 (by decide) (by decide) (by omega) (by omega) (fun hc => ?_) (fun hc => ?_) <;> first | (exfalso; omega) | skip) | refine T_icmp_ge_t (tgt := 75) (pc := 64) k_S_look_64 rfl (by decide) ?_ | refine T_icmp_ge_f (tgt := 75) (pc1 := 67) (pc := 64) k_S_look_64 rfl rfl (by decide) ?_ | refine T_icmp_ge (tgt := 75) (pc1 := 67) (pc := 64) k_S_look_64 rfl rfl (fun hc => ?_) (fun hc => ?_)))))
            | (refine T_iload (pc1 := 69) (pc := 67) k_S_look_67 rfl rfl ?_ <;> try (refine T_istore (pc1 := 71) (pc := 69) k_S_look_69 rfl (Nat.le_of_ble_eq_true rfl) ?_ <;> try (refine T_iload (pc1 := 73) (pc := 71) k_S_look_71 rfl rfl ?_ <;> try (refine T_istore (pc1 := 75) (pc := 73) k_S_look_73 rfl (Nat.le_of_ble_eq_true rfl) ?_))))
            | ((first | refine T_iincN (b := 1) (pc1 := 78) (pc := 75) k_S_look_75 rfl rfl (by decide) ?_ | refine T_iinc (v := (nI 1)) (pc1 := 78) (pc := 75) k_S_look_75 rfl rfl (by decide) ?_) <;> try (refine T_goto (tgt := 31) (pc := 78) k_S_look_78 rfl ?_))
            | refine T_iload (pc1 := 55) (pc := 53) k_S_look_53 rfl rfl ?_
            | refine T_ldc (v := (-1000000005)) (pc1 := 57) (pc := 55) k_S_look_55 rfl c_S_148 ?_
            | refine T_icmp_eq_f (tgt := 67) (pc1 := 60) (pc := 57) k_S_look_57 rfl rfl (cne_nI (by omega)) ?_
            | refine T_iload (pc1 := 64) (pc := 62) k_S_look_62 rfl rfl ?_
            | (with_reducible refine T_icmp_geN (tgt := 75) (pc1 := 67) (pc := 64) k_S_look_64 (by decide) (by decide) (by omega) (by omega) (fun hc => ?_) (fun hc => ?_) <;> first | (exfalso; omega) | skip)
            | refine T_icmp_ge_t (tgt := 75) (pc := 64) k_S_look_64 rfl (by decide) ?_
            | refine T_icmp_ge_f (tgt := 75) (pc1 := 67) (pc := 64) k_S_look_64 rfl rfl (by decide) ?_
            | refine T_icmp_ge (tgt := 75) (pc1 := 67) (pc := 64) k_S_look_64 rfl rfl (fun hc => ?_) (fun hc => ?_)
            | refine T_istore (pc1 := 71) (pc := 69) k_S_look_69 rfl (Nat.le_of_ble_eq_true rfl) ?_
            | refine T_iload (pc1 := 73) (pc := 71) k_S_look_71 rfl rfl ?_
            | refine T_istore (pc1 := 75) (pc := 73) k_S_look_73 rfl (Nat.le_of_ble_eq_true rfl) ?_
            | refine T_goto (tgt := 31) (pc := 78) k_S_look_78 rfl ?_)
          · rw [if_neg (by rw [decide_eq_true_eq]; omega)] at ih
            exact ih _ _ _ g2 J2 (by omega) G (GS_tr hg hg2) (fr_tr hJ hJ2) hJL2 ⟨rfl, rfl, hp1, hp2⟩
          · rw [if_pos (by rw [decide_eq_true_eq]; omega)] at ih
            exact ih _ _ _ g2 J2 (by omega) G (GS_tr hg hg2) (fr_tr hJ hJ2) hJL2 ⟨rfl, rfl, by show b < 14; omega, ok5⟩
    repeat' (first
      | (refine T_iload_n (pc1 := 1) (pc := 0) k_S_look_0 rfl rfl ?_ <;> try (refine T_iload_n (pc1 := 2) (pc := 1) k_S_look_1 rfl rfl ?_ <;> try ((refine T_cS (As := [_, _]) (d1 := 3) (pc1 := 5) (pc := 2) k_S_look_2 rfl (by decide) (Nat.le_of_ble_eq_true rfl) rfl o_S_areSpots l_S_73 rfl (c_S_areSpots (fun hw => ?_) (fun hw => ?_)) <;> try dsimp only [psh]) <;> try ((first | (with_reducible refine T_if_eqN (tgt := 17) (pc1 := 8) (pc := 5) k_S_look_5 (by decide) (by decide) (by omega) (fun hc => ?_) (fun hc => ?_) <;> first | (exfalso; omega) | skip) | refine T_if_eq_t (tgt := 17) (pc := 5) k_S_look_5 rfl (by decide) ?_ | refine T_if_eq_f (tgt := 17) (pc1 := 8) (pc := 5) k_S_look_5 rfl rfl (by decide) ?_ | refine T_if_eq (tgt := 17) (pc1 := 8) (pc := 5) k_S_look_5 rfl rfl (fun hc => ?_) (fun hc => ?_))))))
      | (refine T_iload_n (pc1 := 9) (pc := 8) k_S_look_8 rfl rfl ?_ <;> try (refine T_iconst (v := (nI 0)) (pc1 := 10) (pc := 9) k_S_look_9 rfl (by decide) ?_ <;> try (refine T_iconst (v := (nI 1)) (pc1 := 11) (pc := 10) k_S_look_10 rfl (by decide) ?_ <;> try ((refine T_cS (As := [_, _, _]) (d1 := 1) (pc1 := 14) (pc := 11) k_S_look_11 rfl (by decide) (Nat.le_of_ble_eq_true rfl) rfl o_S_isWithin l_S_77 rfl (c_S_isWithin (fun hw => ?_) (fun hw => ?_)) <;> try dsimp only [psh]) <;> try ((first | (with_reducible refine T_if_neN (tgt := 20) (pc1 := 17) (pc := 14) k_S_look_14 (by decide) (by decide) (by omega) (fun hc => ?_) (fun hc => ?_) <;> first | (exfalso; omega) | skip) | refine T_if_ne_t (tgt := 20) (pc := 14) k_S_look_14 rfl (by decide) ?_ | refine T_if_ne_f (tgt := 20) (pc1 := 17) (pc := 14) k_S_look_14 rfl rfl (by decide) ?_ | refine T_if_ne (tgt := 20) (pc1 := 17) (pc := 14) k_S_look_14 rfl rfl (fun hc => ?_) (fun hc => ?_)))))))
      | (refine T_ldc (v := (-1000000001)) (pc1 := 19) (pc := 17) k_S_look_17 rfl c_S_81 ?_ <;> try (refine T_retI (pc := 19) k_S_look_19 rfl (by first | rfl | decide | assumption) ?_))
      | (refine T_ldc (v := (-1000000005)) (pc1 := 22) (pc := 20) k_S_look_20 rfl c_S_148 ?_ <;> try (refine T_istore (pc1 := 24) (pc := 22) k_S_look_22 rfl (Nat.le_of_ble_eq_true rfl) ?_ <;> try (refine T_ldc (v := (-1000000005)) (pc1 := 26) (pc := 24) k_S_look_24 rfl c_S_148 ?_ <;> try (refine T_istore (pc1 := 28) (pc := 26) k_S_look_26 rfl (Nat.le_of_ble_eq_true rfl) ?_ <;> try (refine T_iconst (v := (nI 0)) (pc1 := 29) (pc := 28) k_S_look_28 rfl (by decide) ?_ <;> try (refine T_istore (pc1 := 31) (pc := 29) k_S_look_29 rfl (Nat.le_of_ble_eq_true rfl) ?_))))))
      | refine T_iload_n (pc1 := 2) (pc := 1) k_S_look_1 rfl rfl ?_
      | (refine T_cS (As := [_, _]) (d1 := 3) (pc1 := 5) (pc := 2) k_S_look_2 rfl (by decide) (Nat.le_of_ble_eq_true rfl) rfl o_S_areSpots l_S_73 rfl (c_S_areSpots (fun hw => ?_) (fun hw => ?_)) <;> try dsimp only [psh])
      | (with_reducible refine T_if_eqN (tgt := 17) (pc1 := 8) (pc := 5) k_S_look_5 (by decide) (by decide) (by omega) (fun hc => ?_) (fun hc => ?_) <;> first | (exfalso; omega) | skip)
      | refine T_if_eq_t (tgt := 17) (pc := 5) k_S_look_5 rfl (by decide) ?_
      | refine T_if_eq_f (tgt := 17) (pc1 := 8) (pc := 5) k_S_look_5 rfl rfl (by decide) ?_
      | refine T_if_eq (tgt := 17) (pc1 := 8) (pc := 5) k_S_look_5 rfl rfl (fun hc => ?_) (fun hc => ?_)
      | refine T_iconst (v := (nI 0)) (pc1 := 10) (pc := 9) k_S_look_9 rfl (by decide) ?_
      | refine T_iconst (v := (nI 1)) (pc1 := 11) (pc := 10) k_S_look_10 rfl (by decide) ?_
      | (refine T_cS (As := [_, _, _]) (d1 := 1) (pc1 := 14) (pc := 11) k_S_look_11 rfl (by decide) (Nat.le_of_ble_eq_true rfl) rfl o_S_isWithin l_S_77 rfl (c_S_isWithin (fun hw => ?_) (fun hw => ?_)) <;> try dsimp only [psh])
      | (with_reducible refine T_if_neN (tgt := 20) (pc1 := 17) (pc := 14) k_S_look_14 (by decide) (by decide) (by omega) (fun hc => ?_) (fun hc => ?_) <;> first | (exfalso; omega) | skip)
      | refine T_if_ne_t (tgt := 20) (pc := 14) k_S_look_14 rfl (by decide) ?_
      | refine T_if_ne_f (tgt := 20) (pc1 := 17) (pc := 14) k_S_look_14 rfl rfl (by decide) ?_
      | refine T_if_ne (tgt := 20) (pc1 := 17) (pc := 14) k_S_look_14 rfl rfl (fun hc => ?_) (fun hc => ?_)
      | refine T_retI (pc := 19) k_S_look_19 rfl (by first | rfl | decide | assumption) ?_
      | refine T_istore (pc1 := 24) (pc := 22) k_S_look_22 rfl (Nat.le_of_ble_eq_true rfl) ?_
      | refine T_ldc (v := (-1000000005)) (pc1 := 26) (pc := 24) k_S_look_24 rfl c_S_148 ?_
      | refine T_istore (pc1 := 28) (pc := 26) k_S_look_26 rfl (Nat.le_of_ble_eq_true rfl) ?_
      | refine T_iconst (v := (nI 0)) (pc1 := 29) (pc := 28) k_S_look_28 rfl (by decide) ?_
      | refine T_istore (pc1 := 31) (pc := 29) k_S_look_29 rfl (Nat.le_of_ble_eq_true rfl) ?_)
    all_goals first | exact loop n 0 _ _ _ g I (by omega) G GS_rf fr_rf hL ⟨rfl, rfl⟩ | (exfalso; exact hw hok.1) | (exfalso; apply hw; constructor <;> omega)
  · rw [lookA, if_neg hok] at kk
    have kk := kk g I _ G GS_rf fr_rf rfl
    repeat' (first
      | (refine T_iload_n (pc1 := 1) (pc := 0) k_S_look_0 rfl rfl ?_ <;> try (refine T_iload_n (pc1 := 2) (pc := 1) k_S_look_1 rfl rfl ?_ <;> try ((refine T_cS (As := [_, _]) (d1 := 3) (pc1 := 5) (pc := 2) k_S_look_2 rfl (by decide) (Nat.le_of_ble_eq_true rfl) rfl o_S_areSpots l_S_73 rfl (c_S_areSpots (fun hw => ?_) (fun hw => ?_)) <;> try dsimp only [psh]) <;> try ((first | (with_reducible refine T_if_eqN (tgt := 17) (pc1 := 8) (pc := 5) k_S_look_5 (by decide) (by decide) (by omega) (fun hc => ?_) (fun hc => ?_) <;> first | (exfalso; omega) | skip) | refine T_if_eq_t (tgt := 17) (pc := 5) k_S_look_5 rfl (by decide) ?_ | refine T_if_eq_f (tgt := 17) (pc1 := 8) (pc := 5) k_S_look_5 rfl rfl (by decide) ?_ | refine T_if_eq (tgt := 17) (pc1 := 8) (pc := 5) k_S_look_5 rfl rfl (fun hc => ?_) (fun hc => ?_))))))
      | (refine T_iload_n (pc1 := 9) (pc := 8) k_S_look_8 rfl rfl ?_ <;> try (refine T_iconst (v := (nI 0)) (pc1 := 10) (pc := 9) k_S_look_9 rfl (by decide) ?_ <;> try (refine T_iconst (v := (nI 1)) (pc1 := 11) (pc := 10) k_S_look_10 rfl (by decide) ?_ <;> try ((refine T_cS (As := [_, _, _]) (d1 := 1) (pc1 := 14) (pc := 11) k_S_look_11 rfl (by decide) (Nat.le_of_ble_eq_true rfl) rfl o_S_isWithin l_S_77 rfl (c_S_isWithin (fun hw => ?_) (fun hw => ?_)) <;> try dsimp only [psh]) <;> try ((first | (with_reducible refine T_if_neN (tgt := 20) (pc1 := 17) (pc := 14) k_S_look_14 (by decide) (by decide) (by omega) (fun hc => ?_) (fun hc => ?_) <;> first | (exfalso; omega) | skip) | refine T_if_ne_t (tgt := 20) (pc := 14) k_S_look_14 rfl (by decide) ?_ | refine T_if_ne_f (tgt := 20) (pc1 := 17) (pc := 14) k_S_look_14 rfl rfl (by decide) ?_ | refine T_if_ne (tgt := 20) (pc1 := 17) (pc := 14) k_S_look_14 rfl rfl (fun hc => ?_) (fun hc => ?_)))))))
      | (refine T_ldc (v := (-1000000001)) (pc1 := 19) (pc := 17) k_S_look_17 rfl c_S_81 ?_ <;> try (refine T_retI (pc := 19) k_S_look_19 rfl (by first | rfl | decide | assumption) ?_))
      | refine T_iload_n (pc1 := 2) (pc := 1) k_S_look_1 rfl rfl ?_
      | (refine T_cS (As := [_, _]) (d1 := 3) (pc1 := 5) (pc := 2) k_S_look_2 rfl (by decide) (Nat.le_of_ble_eq_true rfl) rfl o_S_areSpots l_S_73 rfl (c_S_areSpots (fun hw => ?_) (fun hw => ?_)) <;> try dsimp only [psh])
      | (with_reducible refine T_if_eqN (tgt := 17) (pc1 := 8) (pc := 5) k_S_look_5 (by decide) (by decide) (by omega) (fun hc => ?_) (fun hc => ?_) <;> first | (exfalso; omega) | skip)
      | refine T_if_eq_t (tgt := 17) (pc := 5) k_S_look_5 rfl (by decide) ?_
      | refine T_if_eq_f (tgt := 17) (pc1 := 8) (pc := 5) k_S_look_5 rfl rfl (by decide) ?_
      | refine T_if_eq (tgt := 17) (pc1 := 8) (pc := 5) k_S_look_5 rfl rfl (fun hc => ?_) (fun hc => ?_)
      | refine T_iconst (v := (nI 0)) (pc1 := 10) (pc := 9) k_S_look_9 rfl (by decide) ?_
      | refine T_iconst (v := (nI 1)) (pc1 := 11) (pc := 10) k_S_look_10 rfl (by decide) ?_
      | (refine T_cS (As := [_, _, _]) (d1 := 1) (pc1 := 14) (pc := 11) k_S_look_11 rfl (by decide) (Nat.le_of_ble_eq_true rfl) rfl o_S_isWithin l_S_77 rfl (c_S_isWithin (fun hw => ?_) (fun hw => ?_)) <;> try dsimp only [psh])
      | (with_reducible refine T_if_neN (tgt := 20) (pc1 := 17) (pc := 14) k_S_look_14 (by decide) (by decide) (by omega) (fun hc => ?_) (fun hc => ?_) <;> first | (exfalso; omega) | skip)
      | refine T_if_ne_t (tgt := 20) (pc := 14) k_S_look_14 rfl (by decide) ?_
      | refine T_if_ne_f (tgt := 20) (pc1 := 17) (pc := 14) k_S_look_14 rfl rfl (by decide) ?_
      | refine T_if_ne (tgt := 20) (pc1 := 17) (pc := 14) k_S_look_14 rfl rfl (fun hc => ?_) (fun hc => ?_)
      | refine T_retI (pc := 19) k_S_look_19 rfl (by first | rfl | decide | assumption) ?_)
    all_goals first | exact kk | (exfalso; exact hok ⟨by assumption, by constructor <;> omega⟩)
set_option maxHeartbeats 4000000 in
theorem c_S_wanted {N : Row} {n tn : Nat} {f t : Int32} (G : GeoOK g) (ok : okL N n tn) (hL : LaR g I 1 N n tn) (kk : ∀ J r, fre ff I J → r = wantedA N n tn f t → K (some (.int r)) g J) : Cl 7 M_S_wanted [.ref 0, .int f, .int t] g I K := by
  show Rl 7 M_S_wanted 0 [some (.ref 0), some (.int f), some (.int t), none, none, none, none, none] [] g I K
  have LG := land_1 G
  have h14 := ok.2.1
  by_cases hok : rg 8 f ∧ rg 8 t
  · rw [wantedA, if_pos hok] at kk
    obtain ⟨a, ha, rfl⟩ := rg_of hok.1 (by omega)
    obtain ⟨c, hc8, rfl⟩ := rg_of hok.2 (by omega)
    rw [nI_clamp (by omega), nI_clamp (by omega)] at kk
    have loop : ∀ q b b0 l0 o6 o7 (J : IM), b + q = n → fre ff I J → LaR g J 1 N n tn → (match wtS N n tn a c b with | none => b0 = cNONE | some p => b0 = nI p.1 ∧ l0 = nI p.2 ∧ p.1 < 14 ∧ p.2 ≤ 1000000) → Rl 7 M_S_wanted 20 [some (.ref 0), some (.int (nI a)), some (.int (nI c)), some (.int b0), some (.int l0), some (.int (nI b)), o6, o7] [] g J K := by
      intro q
      induction q with
      | zero =>
        intro b b0 l0 o6 o7 J hb hJ hJL hs
        have hb : b = n := by omega
        subst hb
        have b1 := hJL.2.1.1
        have kk := kk J _ hJ rfl
        cases hl : wtS N b tn a c b with
        | none =>
          rw [hl] at hs kk
          dsimp only at hs
          subst hs
          repeat' (first
            | (refine T_iload (pc1 := 22) (pc := 20) k_S_wanted_20 rfl rfl ?_ <;> try ((first | refine T_aload_n (pc1 := 23) (pc := 22) k_S_wanted_22 rfl rfl ?_ | refine T_aload_nN (pc1 := 23) (pc := 22) k_S_wanted_22 rfl rfl ?_) <;> try (refine T_getR (pc1 := 26) (pc := 23) k_S_wanted_23 rfl f_S_10 rfl (by first | assumption | exact ga G (by decide) rfl | exact lgA LG (by omega)) (by first | assumption | exact gr G (by decide) rfl | exact lgR LG (by omega)) ?_ <;> try (refine T_getV (pc1 := 29) (pc := 26) k_S_wanted_26 rfl f_S_82 rfl (by first | assumption | exact ga G (by decide) rfl | exact lgA LG (by omega)) (by first | assumption | (simp (disch := omega) only [pI_eq, pI_row, pI_col, va_up_self, va_up_ne, ne_eq, not_false_eq_true] <;> rfl) | rfl) ?_ <;> try ((first | (with_reducible refine T_icmp_geN (tgt := 92) (pc1 := 32) (pc := 29) k_S_wanted_29 (by decide) (by decide) (by omega) (by omega) (fun hc => ?_) (fun hc => ?_) <;> first | (exfalso; omega) | skip) | refine T_icmp_ge_t (tgt := 92) (pc := 29) k_S_wanted_29 rfl (by decide) ?_ | refine T_icmp_ge_f (tgt := 92) (pc1 := 32) (pc := 29) k_S_wanted_29 rfl rfl (by decide) ?_ | refine T_icmp_ge (tgt := 92) (pc1 := 32) (pc := 29) k_S_wanted_29 rfl rfl (fun hc => ?_) (fun hc => ?_)))))))
            | (refine T_iload_n (pc1 := 93) (pc := 92) k_S_wanted_92 rfl rfl ?_ <;> try (refine T_retI (pc := 93) k_S_wanted_93 rfl (by first | rfl | decide | assumption) ?_))
            | refine T_aload_n (pc1 := 23) (pc := 22) k_S_wanted_22 rfl rfl ?_
            | refine T_aload_nN (pc1 := 23) (pc := 22) k_S_wanted_22 rfl rfl ?_
            | refine T_getR (pc1 := 26) (pc := 23) k_S_wanted_23 rfl f_S_10 rfl (by first | assumption | exact ga G (by decide) rfl | exact lgA LG (by omega)) (by first | assumption | exact gr G (by decide) rfl | exact lgR LG (by omega)) ?_
            | refine T_getV (pc1 := 29) (pc := 26) k_S_wanted_26 rfl f_S_82 rfl (by first | assumption | exact ga G (by decide) rfl | exact lgA LG (by omega)) (by first | assumption | (simp (disch := omega) only [pI_eq, pI_row, pI_col, va_up_self, va_up_ne, ne_eq, not_false_eq_true] <;> rfl) | rfl) ?_
            | (with_reducible refine T_icmp_geN (tgt := 92) (pc1 := 32) (pc := 29) k_S_wanted_29 (by decide) (by decide) (by omega) (by omega) (fun hc => ?_) (fun hc => ?_) <;> first | (exfalso; omega) | skip)
            | refine T_icmp_ge_t (tgt := 92) (pc := 29) k_S_wanted_29 rfl (by decide) ?_
            | refine T_icmp_ge_f (tgt := 92) (pc1 := 32) (pc := 29) k_S_wanted_29 rfl rfl (by decide) ?_
            | refine T_icmp_ge (tgt := 92) (pc1 := 32) (pc := 29) k_S_wanted_29 rfl rfl (fun hc => ?_) (fun hc => ?_)
            | refine T_retI (pc := 93) k_S_wanted_93 rfl (by first | rfl | decide | assumption) ?_)
          exact kk
        | some p =>
          rw [hl] at hs kk
          dsimp only at hs
          obtain ⟨rfl, rfl, hp1, hp2⟩ := hs
          repeat' (first
            | (refine T_iload (pc1 := 22) (pc := 20) k_S_wanted_20 rfl rfl ?_ <;> try ((first | refine T_aload_n (pc1 := 23) (pc := 22) k_S_wanted_22 rfl rfl ?_ | refine T_aload_nN (pc1 := 23) (pc := 22) k_S_wanted_22 rfl rfl ?_) <;> try (refine T_getR (pc1 := 26) (pc := 23) k_S_wanted_23 rfl f_S_10 rfl (by first | assumption | exact ga G (by decide) rfl | exact lgA LG (by omega)) (by first | assumption | exact gr G (by decide) rfl | exact lgR LG (by omega)) ?_ <;> try (refine T_getV (pc1 := 29) (pc := 26) k_S_wanted_26 rfl f_S_82 rfl (by first | assumption | exact ga G (by decide) rfl | exact lgA LG (by omega)) (by first | assumption | (simp (disch := omega) only [pI_eq, pI_row, pI_col, va_up_self, va_up_ne, ne_eq, not_false_eq_true] <;> rfl) | rfl) ?_ <;> try ((first | (with_reducible refine T_icmp_geN (tgt := 92) (pc1 := 32) (pc := 29) k_S_wanted_29 (by decide) (by decide) (by omega) (by omega) (fun hc => ?_) (fun hc => ?_) <;> first | (exfalso; omega) | skip) | refine T_icmp_ge_t (tgt := 92) (pc := 29) k_S_wanted_29 rfl (by decide) ?_ | refine T_icmp_ge_f (tgt := 92) (pc1 := 32) (pc := 29) k_S_wanted_29 rfl rfl (by decide) ?_ | refine T_icmp_ge (tgt := 92) (pc1 := 32) (pc := 29) k_S_wanted_29 rfl rfl (fun hc => ?_) (fun hc => ?_)))))))
            | (refine T_iload_n (pc1 := 93) (pc := 92) k_S_wanted_92 rfl rfl ?_ <;> try (refine T_retI (pc := 93) k_S_wanted_93 rfl (by first | rfl | decide | assumption) ?_))
            | refine T_aload_n (pc1 := 23) (pc := 22) k_S_wanted_22 rfl rfl ?_
            | refine T_aload_nN (pc1 := 23) (pc := 22) k_S_wanted_22 rfl rfl ?_
            | refine T_getR (pc1 := 26) (pc := 23) k_S_wanted_23 rfl f_S_10 rfl (by first | assumption | exact ga G (by decide) rfl | exact lgA LG (by omega)) (by first | assumption | exact gr G (by decide) rfl | exact lgR LG (by omega)) ?_
            | refine T_getV (pc1 := 29) (pc := 26) k_S_wanted_26 rfl f_S_82 rfl (by first | assumption | exact ga G (by decide) rfl | exact lgA LG (by omega)) (by first | assumption | (simp (disch := omega) only [pI_eq, pI_row, pI_col, va_up_self, va_up_ne, ne_eq, not_false_eq_true] <;> rfl) | rfl) ?_
            | (with_reducible refine T_icmp_geN (tgt := 92) (pc1 := 32) (pc := 29) k_S_wanted_29 (by decide) (by decide) (by omega) (by omega) (fun hc => ?_) (fun hc => ?_) <;> first | (exfalso; omega) | skip)
            | refine T_icmp_ge_t (tgt := 92) (pc := 29) k_S_wanted_29 rfl (by decide) ?_
            | refine T_icmp_ge_f (tgt := 92) (pc1 := 32) (pc := 29) k_S_wanted_29 rfl rfl (by decide) ?_
            | refine T_icmp_ge (tgt := 92) (pc1 := 32) (pc := 29) k_S_wanted_29 rfl rfl (fun hc => ?_) (fun hc => ?_)
            | refine T_retI (pc := 93) k_S_wanted_93 rfl (by first | rfl | decide | assumption) ?_)
          exact kk
      | succ q ih =>
        intro b b0 l0 o6 o7 J hb hJ hJL hs
        have hbn : b < n := by omega
        have b1 := hJL.2.1.1
        have hle := bst_le (fr := a) (to0 := c) (w := nI b) ok
        have ih := ih (b + 1)
        unfold wtS at ih hs
        rw [sel] at ih
        refine T_iload (pc1 := 22) (pc := 20) k_S_wanted_20 rfl rfl ?_
        repeat' (first
          | ((first | refine T_aload_n (pc1 := 23) (pc := 22) k_S_wanted_22 rfl rfl ?_ | refine T_aload_nN (pc1 := 23) (pc := 22) k_S_wanted_22 rfl rfl ?_) <;> try (refine T_getR (pc1 := 26) (pc := 23) k_S_wanted_23 rfl f_S_10 rfl (by first | assumption | exact ga G (by decide) rfl | exact lgA LG (by omega)) (by first | assumption | exact gr G (by decide) rfl | exact lgR LG (by omega)) ?_ <;> try (refine T_getV (pc1 := 29) (pc := 26) k_S_wanted_26 rfl f_S_82 rfl (by first | assumption | exact ga G (by decide) rfl | exact lgA LG (by omega)) (by first | assumption | (simp (disch := omega) only [pI_eq, pI_row, pI_col, va_up_self, va_up_ne, ne_eq, not_false_eq_true] <;> rfl) | rfl) ?_ <;> try ((first | (with_reducible refine T_icmp_geN (tgt := 92) (pc1 := 32) (pc := 29) k_S_wanted_29 (by decide) (by decide) (by omega) (by omega) (fun hc => ?_) (fun hc => ?_) <;> first | (exfalso; omega) | skip) | refine T_icmp_ge_t (tgt := 92) (pc := 29) k_S_wanted_29 rfl (by decide) ?_ | refine T_icmp_ge_f (tgt := 92) (pc1 := 32) (pc := 29) k_S_wanted_29 rfl rfl (by decide) ?_ | refine T_icmp_ge (tgt := 92) (pc1 := 32) (pc := 29) k_S_wanted_29 rfl rfl (fun hc => ?_) (fun hc => ?_))))))
          | ((first | refine T_aload_n (pc1 := 33) (pc := 32) k_S_wanted_32 rfl rfl ?_ | refine T_aload_nN (pc1 := 33) (pc := 32) k_S_wanted_32 rfl rfl ?_) <;> try (refine T_getR (pc1 := 36) (pc := 33) k_S_wanted_33 rfl f_S_36 rfl (by first | assumption | exact ga G (by decide) rfl | exact lgA LG (by omega)) (by first | assumption | exact gr G (by decide) rfl | exact lgR LG (by omega)) ?_ <;> try ((first | refine T_aload_n (pc1 := 37) (pc := 36) k_S_wanted_36 rfl rfl ?_ | refine T_aload_nN (pc1 := 37) (pc := 36) k_S_wanted_36 rfl rfl ?_) <;> try (refine T_getR (pc1 := 40) (pc := 37) k_S_wanted_37 rfl f_S_10 rfl (by first | assumption | exact ga G (by decide) rfl | exact lgA LG (by omega)) (by first | assumption | exact gr G (by decide) rfl | exact lgR LG (by omega)) ?_ <;> try (refine T_iload_n (pc1 := 41) (pc := 40) k_S_wanted_40 rfl rfl ?_ <;> try (refine T_iload_n (pc1 := 42) (pc := 41) k_S_wanted_41 rfl rfl ?_ <;> try (refine T_iload (pc1 := 44) (pc := 42) k_S_wanted_42 rfl rfl ?_ <;> try ((refine T_cV (As := [_, _, _, _]) (d1 := 6) (pc1 := 47) (pc := 44) k_S_wanted_44 rfl (by decide) (Nat.le_of_ble_eq_true rfl) rfl o_Wr_leastMinutes l_S_193 rfl (by first | assumption | exact ga G (by decide) rfl | exact lgA LG (by omega)) rfl (c_Wr_leastMinutes G LG ok hJL ha hc8 (fun J2 hJ2 => ?_)) <;> try dsimp only [psh])))))))))
          | refine T_getR (pc1 := 26) (pc := 23) k_S_wanted_23 rfl f_S_10 rfl (by first | assumption | exact ga G (by decide) rfl | exact lgA LG (by omega)) (by first | assumption | exact gr G (by decide) rfl | exact lgR LG (by omega)) ?_
          | refine T_getV (pc1 := 29) (pc := 26) k_S_wanted_26 rfl f_S_82 rfl (by first | assumption | exact ga G (by decide) rfl | exact lgA LG (by omega)) (by first | assumption | (simp (disch := omega) only [pI_eq, pI_row, pI_col, va_up_self, va_up_ne, ne_eq, not_false_eq_true] <;> rfl) | rfl) ?_
          | (with_reducible refine T_icmp_geN (tgt := 92) (pc1 := 32) (pc := 29) k_S_wanted_29 (by decide) (by decide) (by omega) (by omega) (fun hc => ?_) (fun hc => ?_) <;> first | (exfalso; omega) | skip)
          | refine T_icmp_ge_t (tgt := 92) (pc := 29) k_S_wanted_29 rfl (by decide) ?_
          | refine T_icmp_ge_f (tgt := 92) (pc1 := 32) (pc := 29) k_S_wanted_29 rfl rfl (by decide) ?_
          | refine T_icmp_ge (tgt := 92) (pc1 := 32) (pc := 29) k_S_wanted_29 rfl rfl (fun hc => ?_) (fun hc => ?_)
          | refine T_getR (pc1 := 36) (pc := 33) k_S_wanted_33 rfl f_S_36 rfl (by first | assumption | exact ga G (by decide) rfl | exact lgA LG (by omega)) (by first | assumption | exact gr G (by decide) rfl | exact lgR LG (by omega)) ?_
          | refine T_aload_n (pc1 := 37) (pc := 36) k_S_wanted_36 rfl rfl ?_
          | refine T_aload_nN (pc1 := 37) (pc := 36) k_S_wanted_36 rfl rfl ?_
          | refine T_getR (pc1 := 40) (pc := 37) k_S_wanted_37 rfl f_S_10 rfl (by first | assumption | exact ga G (by decide) rfl | exact lgA LG (by omega)) (by first | assumption | exact gr G (by decide) rfl | exact lgR LG (by omega)) ?_
          | refine T_iload_n (pc1 := 41) (pc := 40) k_S_wanted_40 rfl rfl ?_
          | refine T_iload_n (pc1 := 42) (pc := 41) k_S_wanted_41 rfl rfl ?_
          | refine T_iload (pc1 := 44) (pc := 42) k_S_wanted_42 rfl rfl ?_
          | (refine T_cV (As := [_, _, _, _]) (d1 := 6) (pc1 := 47) (pc := 44) k_S_wanted_44 rfl (by decide) (Nat.le_of_ble_eq_true rfl) rfl o_Wr_leastMinutes l_S_193 rfl (by first | assumption | exact ga G (by decide) rfl | exact lgA LG (by omega)) rfl (c_Wr_leastMinutes G LG ok hJL ha hc8 (fun J2 hJ2 => ?_)) <;> try dsimp only [psh]))
        all_goals try (exfalso; omega)
        have hJL2 := LR_fr hJL h14 GS_rf (r := 43) (by decide) (by decide) hJ2 (fun i => ff_l (by decide)) (fun i => ff_s)
        have hm : wtM N n tn a c b ≤ 1000000 := by unfold wtM; split <;> omega
        have nx1 : ∀ o6, Rl 7 M_S_wanted 64 [some (.ref 0), some (.int (nI a)), some (.int (nI c)), some (.int b0), some (.int l0), some (.int (nI b)), o6, o7] [.int (nI (wtM N n tn a c b))] g J2 K := by
          intro o6
          cases hl : sel (fun a b => decide (b < a)) (wtM N n tn a c) b with
          | none =>
            rw [hl] at hs ih
            dsimp only at hs ih
            subst hs
            repeat' (first
              | (refine T_istore (pc1 := 66) (pc := 64) k_S_wanted_64 rfl (Nat.le_of_ble_eq_true rfl) ?_ <;> try (refine T_iload_n (pc1 := 67) (pc := 66) k_S_wanted_66 rfl rfl ?_ <;> try (refine T_ldc (v := (-1000000005)) (pc1 := 69) (pc := 67) k_S_wanted_67 rfl c_S_148 ?_ <;> try ((first | (with_reducible refine T_icmp_eqN (tgt := 79) (pc1 := 72) (pc := 69) k_S_wanted_69 (by decide) (by decide) (by omega) (by omega) (fun hc => ?_) (fun hc => ?_) <;> first | (exfalso; omega) | skip) | refine T_icmp_eq_t (tgt := 79) (pc := 69) k_S_wanted_69 rfl (by decide) ?_ | refine T_icmp_eq_f (tgt := 79) (pc1 := 72) (pc := 69) k_S_wanted_69 rfl rfl (by decide) ?_ | refine T_icmp_eq (tgt := 79) (pc1 := 72) (pc := 69) k_S_wanted_69 rfl rfl (fun hc => ?_) (fun hc => ?_))))))
              | (refine T_iload (pc1 := 74) (pc := 72) k_S_wanted_72 rfl rfl ?_ <;> try (refine T_iload (pc1 := 76) (pc := 74) k_S_wanted_74 rfl rfl ?_ <;> try ((first | (with_reducible refine T_icmp_leN (tgt := 86) (pc1 := 79) (pc := 76) k_S_wanted_76 (by decide) (by decide) (by omega) (by omega) (fun hc => ?_) (fun hc => ?_) <;> first | (exfalso; omega) | skip) | refine T_icmp_le_t (tgt := 86) (pc := 76) k_S_wanted_76 rfl (by decide) ?_ | refine T_icmp_le_f (tgt := 86) (pc1 := 79) (pc := 76) k_S_wanted_76 rfl rfl (by decide) ?_ | refine T_icmp_le (tgt := 86) (pc1 := 79) (pc := 76) k_S_wanted_76 rfl rfl (fun hc => ?_) (fun hc => ?_)))))
              | (refine T_iload (pc1 := 81) (pc := 79) k_S_wanted_79 rfl rfl ?_ <;> try (refine T_istore_n (pc1 := 82) (pc := 81) k_S_wanted_81 rfl (Nat.le_of_ble_eq_true rfl) ?_ <;> try (refine T_iload (pc1 := 84) (pc := 82) k_S_wanted_82 rfl rfl ?_ <;> try (refine T_istore (pc1 := 86) (pc := 84) k_S_wanted_84 rfl (Nat.le_of_ble_eq_true rfl) ?_))))
              | ((first | refine T_iincN (b := 1) (pc1 := 89) (pc := 86) k_S_wanted_86 rfl rfl (by decide) ?_ | refine T_iinc (v := (nI 1)) (pc1 := 89) (pc := 86) k_S_wanted_86 rfl rfl (by decide) ?_) <;> try (refine T_goto (tgt := 20) (pc := 89) k_S_wanted_89 rfl ?_))
              | refine T_iload_n (pc1 := 67) (pc := 66) k_S_wanted_66 rfl rfl ?_
              | refine T_ldc (v := (-1000000005)) (pc1 := 69) (pc := 67) k_S_wanted_67 rfl c_S_148 ?_
              | (with_reducible refine T_icmp_eqN (tgt := 79) (pc1 := 72) (pc := 69) k_S_wanted_69 (by decide) (by decide) (by omega) (by omega) (fun hc => ?_) (fun hc => ?_) <;> first | (exfalso; omega) | skip)
              | refine T_icmp_eq_t (tgt := 79) (pc := 69) k_S_wanted_69 rfl (by decide) ?_
              | refine T_icmp_eq_f (tgt := 79) (pc1 := 72) (pc := 69) k_S_wanted_69 rfl rfl (by decide) ?_
              | refine T_icmp_eq (tgt := 79) (pc1 := 72) (pc := 69) k_S_wanted_69 rfl rfl (fun hc => ?_) (fun hc => ?_)
              | refine T_iload (pc1 := 76) (pc := 74) k_S_wanted_74 rfl rfl ?_
              | (with_reducible refine T_icmp_leN (tgt := 86) (pc1 := 79) (pc := 76) k_S_wanted_76 (by decide) (by decide) (by omega) (by omega) (fun hc => ?_) (fun hc => ?_) <;> first | (exfalso; omega) | skip)
              | refine T_icmp_le_t (tgt := 86) (pc := 76) k_S_wanted_76 rfl (by decide) ?_
              | refine T_icmp_le_f (tgt := 86) (pc1 := 79) (pc := 76) k_S_wanted_76 rfl rfl (by decide) ?_
              | refine T_icmp_le (tgt := 86) (pc1 := 79) (pc := 76) k_S_wanted_76 rfl rfl (fun hc => ?_) (fun hc => ?_)
              | refine T_istore_n (pc1 := 82) (pc := 81) k_S_wanted_81 rfl (Nat.le_of_ble_eq_true rfl) ?_
              | refine T_iload (pc1 := 84) (pc := 82) k_S_wanted_82 rfl rfl ?_
              | refine T_istore (pc1 := 86) (pc := 84) k_S_wanted_84 rfl (Nat.le_of_ble_eq_true rfl) ?_
              | refine T_goto (tgt := 20) (pc := 89) k_S_wanted_89 rfl ?_)
            exact ih _ _ _ _ J2 (by omega) (fr_tr hJ hJ2) hJL2 ⟨rfl, rfl, by omega, hm⟩
          | some p =>
            rw [hl] at hs ih
            dsimp only at hs ih
            obtain ⟨rfl, rfl, hp1, hp2⟩ := hs
            repeat' (first
              | (refine T_istore (pc1 := 66) (pc := 64) k_S_wanted_64 rfl (Nat.le_of_ble_eq_true rfl) ?_ <;> try (refine T_iload_n (pc1 := 67) (pc := 66) k_S_wanted_66 rfl rfl ?_ <;> try (refine T_ldc (v := (-1000000005)) (pc1 := 69) (pc := 67) k_S_wanted_67 rfl c_S_148 ?_ <;> try (refine T_icmp_eq_f (tgt := 79) (pc1 := 72) (pc := 69) k_S_wanted_69 rfl rfl (cne_nI (by omega)) ?_))))
              | (refine T_iload (pc1 := 74) (pc := 72) k_S_wanted_72 rfl rfl ?_ <;> try (refine T_iload (pc1 := 76) (pc := 74) k_S_wanted_74 rfl rfl ?_ <;> try ((first | (with_reducible refine T_icmp_leN (tgt := 86) (pc1 := 79) (pc := 76) k_S_wanted_76 (by decide) (by decide) (by omega) (by omega) (fun hc => ?_) (fun hc => ?_) <;> first | (exfalso; omega) | skip) | refine T_icmp_le_t (tgt := 86) (pc := 76) k_S_wanted_76 rfl (by decide) ?_ | refine T_icmp_le_f (tgt := 86) (pc1 := 79) (pc := 76) k_S_wanted_76 rfl rfl (by decide) ?_ | refine T_icmp_le (tgt := 86) (pc1 := 79) (pc := 76) k_S_wanted_76 rfl rfl (fun hc => ?_) (fun hc => ?_)))))
              | (refine T_iload (pc1 := 81) (pc := 79) k_S_wanted_79 rfl rfl ?_ <;> try (refine T_istore_n (pc1 := 82) (pc := 81) k_S_wanted_81 rfl (Nat.le_of_ble_eq_true rfl) ?_ <;> try (refine T_iload (pc1 := 84) (pc := 82) k_S_wanted_82 rfl rfl ?_ <;> try (refine T_istore (pc1 := 86) (pc := 84) k_S_wanted_84 rfl (Nat.le_of_ble_eq_true rfl) ?_))))
              | ((first | refine T_iincN (b := 1) (pc1 := 89) (pc := 86) k_S_wanted_86 rfl rfl (by decide) ?_ | refine T_iinc (v := (nI 1)) (pc1 := 89) (pc := 86) k_S_wanted_86 rfl rfl (by decide) ?_) <;> try (refine T_goto (tgt := 20) (pc := 89) k_S_wanted_89 rfl ?_))
              | refine T_iload_n (pc1 := 67) (pc := 66) k_S_wanted_66 rfl rfl ?_
              | refine T_ldc (v := (-1000000005)) (pc1 := 69) (pc := 67) k_S_wanted_67 rfl c_S_148 ?_
              | refine T_icmp_eq_f (tgt := 79) (pc1 := 72) (pc := 69) k_S_wanted_69 rfl rfl (cne_nI (by omega)) ?_
              | refine T_iload (pc1 := 76) (pc := 74) k_S_wanted_74 rfl rfl ?_
              | (with_reducible refine T_icmp_leN (tgt := 86) (pc1 := 79) (pc := 76) k_S_wanted_76 (by decide) (by decide) (by omega) (by omega) (fun hc => ?_) (fun hc => ?_) <;> first | (exfalso; omega) | skip)
              | refine T_icmp_le_t (tgt := 86) (pc := 76) k_S_wanted_76 rfl (by decide) ?_
              | refine T_icmp_le_f (tgt := 86) (pc1 := 79) (pc := 76) k_S_wanted_76 rfl rfl (by decide) ?_
              | refine T_icmp_le (tgt := 86) (pc1 := 79) (pc := 76) k_S_wanted_76 rfl rfl (fun hc => ?_) (fun hc => ?_)
              | refine T_istore_n (pc1 := 82) (pc := 81) k_S_wanted_81 rfl (Nat.le_of_ble_eq_true rfl) ?_
              | refine T_iload (pc1 := 84) (pc := 82) k_S_wanted_82 rfl rfl ?_
              | refine T_istore (pc1 := 86) (pc := 84) k_S_wanted_84 rfl (Nat.le_of_ble_eq_true rfl) ?_
              | refine T_goto (tgt := 20) (pc := 89) k_S_wanted_89 rfl ?_)
            · rw [if_neg (by rw [decide_eq_true_eq]; omega)] at ih
              exact ih _ _ _ _ J2 (by omega) (fr_tr hJ hJ2) hJL2 ⟨rfl, rfl, hp1, hp2⟩
            · rw [if_pos (by rw [decide_eq_true_eq]; omega)] at ih
              exact ih _ _ _ _ J2 (by omega) (fr_tr hJ hJ2) hJL2 ⟨rfl, rfl, by show b < 14; omega, hm⟩
        by_cases hno : 1000000 ≤ bst N n tn (nI b) a c
        · have em : wtM N n tn a c b = 999 := if_pos hno
          rw [em] at nx1
          rw [nway, if_pos hno]
          repeat' (first
            | (refine T_istore (pc1 := 49) (pc := 47) k_S_wanted_47 rfl (Nat.le_of_ble_eq_true rfl) ?_ <;> try (refine T_iload (pc1 := 51) (pc := 49) k_S_wanted_49 rfl rfl ?_ <;> try (refine T_ldc (v := (-1000000005)) (pc1 := 53) (pc := 51) k_S_wanted_51 rfl c_S_148 ?_ <;> try ((first | (with_reducible refine T_icmp_neN (tgt := 62) (pc1 := 56) (pc := 53) k_S_wanted_53 (by decide) (by decide) (by omega) (by omega) (fun hc => ?_) (fun hc => ?_) <;> first | (exfalso; omega) | skip) | refine T_icmp_ne_t (tgt := 62) (pc := 53) k_S_wanted_53 rfl (by decide) ?_ | refine T_icmp_ne_f (tgt := 62) (pc1 := 56) (pc := 53) k_S_wanted_53 rfl rfl (by decide) ?_ | refine T_icmp_ne (tgt := 62) (pc1 := 56) (pc := 53) k_S_wanted_53 rfl rfl (fun hc => ?_) (fun hc => ?_))))))
            | (refine T_sipush (v := (nI 999)) (pc1 := 59) (pc := 56) k_S_wanted_56 rfl (by decide) ?_ <;> try (refine T_goto (tgt := 64) (pc := 59) k_S_wanted_59 rfl ?_))
            | (refine T_iload (pc1 := 64) (pc := 62) k_S_wanted_62 rfl rfl ?_)
            | refine T_iload (pc1 := 51) (pc := 49) k_S_wanted_49 rfl rfl ?_
            | refine T_ldc (v := (-1000000005)) (pc1 := 53) (pc := 51) k_S_wanted_51 rfl c_S_148 ?_
            | (with_reducible refine T_icmp_neN (tgt := 62) (pc1 := 56) (pc := 53) k_S_wanted_53 (by decide) (by decide) (by omega) (by omega) (fun hc => ?_) (fun hc => ?_) <;> first | (exfalso; omega) | skip)
            | refine T_icmp_ne_t (tgt := 62) (pc := 53) k_S_wanted_53 rfl (by decide) ?_
            | refine T_icmp_ne_f (tgt := 62) (pc1 := 56) (pc := 53) k_S_wanted_53 rfl rfl (by decide) ?_
            | refine T_icmp_ne (tgt := 62) (pc1 := 56) (pc := 53) k_S_wanted_53 rfl rfl (fun hc => ?_) (fun hc => ?_)
            | refine T_goto (tgt := 64) (pc := 59) k_S_wanted_59 rfl ?_)
          exact nx1 _
        · have em : wtM N n tn a c b = bst N n tn (nI b) a c := if_neg hno
          rw [em] at nx1
          rw [nway, if_neg hno]
          repeat' (first
            | (refine T_istore (pc1 := 49) (pc := 47) k_S_wanted_47 rfl (Nat.le_of_ble_eq_true rfl) ?_ <;> try (refine T_iload (pc1 := 51) (pc := 49) k_S_wanted_49 rfl rfl ?_ <;> try (refine T_ldc (v := (-1000000005)) (pc1 := 53) (pc := 51) k_S_wanted_51 rfl c_S_148 ?_ <;> try (refine T_icmp_ne_t (tgt := 62) (pc := 53) k_S_wanted_53 rfl (cne_nI (by omega)) ?_))))
            | (refine T_sipush (v := (nI 999)) (pc1 := 59) (pc := 56) k_S_wanted_56 rfl (by decide) ?_ <;> try (refine T_goto (tgt := 64) (pc := 59) k_S_wanted_59 rfl ?_))
            | (refine T_iload (pc1 := 64) (pc := 62) k_S_wanted_62 rfl rfl ?_)
            | refine T_iload (pc1 := 51) (pc := 49) k_S_wanted_49 rfl rfl ?_
            | refine T_ldc (v := (-1000000005)) (pc1 := 53) (pc := 51) k_S_wanted_51 rfl c_S_148 ?_
            | refine T_icmp_ne_t (tgt := 62) (pc := 53) k_S_wanted_53 rfl (cne_nI (by omega)) ?_
            | refine T_goto (tgt := 64) (pc := 59) k_S_wanted_59 rfl ?_)
          exact nx1 _
    repeat' (first
      | (refine T_iload_n (pc1 := 1) (pc := 0) k_S_wanted_0 rfl rfl ?_ <;> try (refine T_iload_n (pc1 := 2) (pc := 1) k_S_wanted_1 rfl rfl ?_ <;> try ((refine T_cS (As := [_, _]) (d1 := 3) (pc1 := 5) (pc := 2) k_S_wanted_2 rfl (by decide) (Nat.le_of_ble_eq_true rfl) rfl o_S_areSpots l_S_73 rfl (c_S_areSpots (fun hw => ?_) (fun hw => ?_)) <;> try dsimp only [psh]) <;> try ((first | (with_reducible refine T_if_neN (tgt := 11) (pc1 := 8) (pc := 5) k_S_wanted_5 (by decide) (by decide) (by omega) (fun hc => ?_) (fun hc => ?_) <;> first | (exfalso; omega) | skip) | refine T_if_ne_t (tgt := 11) (pc := 5) k_S_wanted_5 rfl (by decide) ?_ | refine T_if_ne_f (tgt := 11) (pc1 := 8) (pc := 5) k_S_wanted_5 rfl rfl (by decide) ?_ | refine T_if_ne (tgt := 11) (pc1 := 8) (pc := 5) k_S_wanted_5 rfl rfl (fun hc => ?_) (fun hc => ?_))))))
      | (refine T_ldc (v := (-1000000001)) (pc1 := 10) (pc := 8) k_S_wanted_8 rfl c_S_81 ?_ <;> try (refine T_retI (pc := 10) k_S_wanted_10 rfl (by first | rfl | decide | assumption) ?_))
      | (refine T_ldc (v := (-1000000005)) (pc1 := 13) (pc := 11) k_S_wanted_11 rfl c_S_148 ?_ <;> try (refine T_istore_n (pc1 := 14) (pc := 13) k_S_wanted_13 rfl (Nat.le_of_ble_eq_true rfl) ?_ <;> try (refine T_iconst (v := (nI 0)) (pc1 := 15) (pc := 14) k_S_wanted_14 rfl (by decide) ?_ <;> try (refine T_istore (pc1 := 17) (pc := 15) k_S_wanted_15 rfl (Nat.le_of_ble_eq_true rfl) ?_ <;> try (refine T_iconst (v := (nI 0)) (pc1 := 18) (pc := 17) k_S_wanted_17 rfl (by decide) ?_ <;> try (refine T_istore (pc1 := 20) (pc := 18) k_S_wanted_18 rfl (Nat.le_of_ble_eq_true rfl) ?_))))))
      | refine T_iload_n (pc1 := 2) (pc := 1) k_S_wanted_1 rfl rfl ?_
      | (refine T_cS (As := [_, _]) (d1 := 3) (pc1 := 5) (pc := 2) k_S_wanted_2 rfl (by decide) (Nat.le_of_ble_eq_true rfl) rfl o_S_areSpots l_S_73 rfl (c_S_areSpots (fun hw => ?_) (fun hw => ?_)) <;> try dsimp only [psh])
      | (with_reducible refine T_if_neN (tgt := 11) (pc1 := 8) (pc := 5) k_S_wanted_5 (by decide) (by decide) (by omega) (fun hc => ?_) (fun hc => ?_) <;> first | (exfalso; omega) | skip)
      | refine T_if_ne_t (tgt := 11) (pc := 5) k_S_wanted_5 rfl (by decide) ?_
      | refine T_if_ne_f (tgt := 11) (pc1 := 8) (pc := 5) k_S_wanted_5 rfl rfl (by decide) ?_
      | refine T_if_ne (tgt := 11) (pc1 := 8) (pc := 5) k_S_wanted_5 rfl rfl (fun hc => ?_) (fun hc => ?_)
      | refine T_retI (pc := 10) k_S_wanted_10 rfl (by first | rfl | decide | assumption) ?_
      | refine T_istore_n (pc1 := 14) (pc := 13) k_S_wanted_13 rfl (Nat.le_of_ble_eq_true rfl) ?_
      | refine T_iconst (v := (nI 0)) (pc1 := 15) (pc := 14) k_S_wanted_14 rfl (by decide) ?_
      | refine T_istore (pc1 := 17) (pc := 15) k_S_wanted_15 rfl (Nat.le_of_ble_eq_true rfl) ?_
      | refine T_iconst (v := (nI 0)) (pc1 := 18) (pc := 17) k_S_wanted_17 rfl (by decide) ?_
      | refine T_istore (pc1 := 20) (pc := 18) k_S_wanted_18 rfl (Nat.le_of_ble_eq_true rfl) ?_)
    all_goals first | exact loop n 0 _ _ _ _ I (by omega) fr_rf hL rfl | (exfalso; exact hw hok)
  · rw [wantedA, if_neg hok] at kk
    have kk := kk I _ fr_rf rfl
    repeat' (first
      | (refine T_iload_n (pc1 := 1) (pc := 0) k_S_wanted_0 rfl rfl ?_ <;> try (refine T_iload_n (pc1 := 2) (pc := 1) k_S_wanted_1 rfl rfl ?_ <;> try ((refine T_cS (As := [_, _]) (d1 := 3) (pc1 := 5) (pc := 2) k_S_wanted_2 rfl (by decide) (Nat.le_of_ble_eq_true rfl) rfl o_S_areSpots l_S_73 rfl (c_S_areSpots (fun hw => ?_) (fun hw => ?_)) <;> try dsimp only [psh]) <;> try ((first | (with_reducible refine T_if_neN (tgt := 11) (pc1 := 8) (pc := 5) k_S_wanted_5 (by decide) (by decide) (by omega) (fun hc => ?_) (fun hc => ?_) <;> first | (exfalso; omega) | skip) | refine T_if_ne_t (tgt := 11) (pc := 5) k_S_wanted_5 rfl (by decide) ?_ | refine T_if_ne_f (tgt := 11) (pc1 := 8) (pc := 5) k_S_wanted_5 rfl rfl (by decide) ?_ | refine T_if_ne (tgt := 11) (pc1 := 8) (pc := 5) k_S_wanted_5 rfl rfl (fun hc => ?_) (fun hc => ?_))))))
      | (refine T_ldc (v := (-1000000001)) (pc1 := 10) (pc := 8) k_S_wanted_8 rfl c_S_81 ?_ <;> try (refine T_retI (pc := 10) k_S_wanted_10 rfl (by first | rfl | decide | assumption) ?_))
      | refine T_iload_n (pc1 := 2) (pc := 1) k_S_wanted_1 rfl rfl ?_
      | (refine T_cS (As := [_, _]) (d1 := 3) (pc1 := 5) (pc := 2) k_S_wanted_2 rfl (by decide) (Nat.le_of_ble_eq_true rfl) rfl o_S_areSpots l_S_73 rfl (c_S_areSpots (fun hw => ?_) (fun hw => ?_)) <;> try dsimp only [psh])
      | (with_reducible refine T_if_neN (tgt := 11) (pc1 := 8) (pc := 5) k_S_wanted_5 (by decide) (by decide) (by omega) (fun hc => ?_) (fun hc => ?_) <;> first | (exfalso; omega) | skip)
      | refine T_if_ne_t (tgt := 11) (pc := 5) k_S_wanted_5 rfl (by decide) ?_
      | refine T_if_ne_f (tgt := 11) (pc1 := 8) (pc := 5) k_S_wanted_5 rfl rfl (by decide) ?_
      | refine T_if_ne (tgt := 11) (pc1 := 8) (pc := 5) k_S_wanted_5 rfl rfl (fun hc => ?_) (fun hc => ?_)
      | refine T_retI (pc := 10) k_S_wanted_10 rfl (by first | rfl | decide | assumption) ?_)
    all_goals first | exact kk | contradiction
theorem c_Wr_spotsWithin {a n tn fr x : Nat} {N : Row} (G : GeoOK g) (LG : LandG g a) (ok : okL N n tn) (hL : LaR g I a N n tn) (hf : fr < 8) (hx : x ≤ 999) (kk : ∀ J, fre ff I J → K (some (.int (nI (msk (fun s => decide (dst (ed N) (bcs N tn (-1)) n fr s ≤ x)) 8)))) g J) : Cl 6 M_Wr_spotsWithin [.ref 63, .ref a, .int (nI fr), .int (nI x)] g I K := by
  show Rl 6 M_Wr_spotsWithin 0 [some (.ref 63), some (.ref a), some (.int (nI fr)), some (.int (nI x)), none, none] [] g I K
  obtain ⟨g1, g2, g3, g4, g5, g6, g7, g8, g9, g10, g11, g12, g13, g14⟩ := id LG
  have h14 := ok.2.1
  have loop : ∀ q s (J : IM), s + q = 8 → fre ff I J → (∀ v, v < 8 → J 65 v = nI (dst (ed N) (bcs N tn (-1)) n fr v)) → Rl 6 M_Wr_spotsWithin 19 [some (.ref 63), some (.ref a), some (.int (nI fr)), some (.int (nI x)), some (.int (nI (msk (fun s => decide (dst (ed N) (bcs N tn (-1)) n fr s ≤ x)) s))), some (.int (nI s))] [] g J K := by
    intro q
    induction q with
    | zero =>
      intro s J hs hJ hD
      have hs : s = 8 := by omega
      subst hs
      repeat' (first
        | (refine T_iload (pc1 := 21) (pc := 19) k_Wr_spotsWithin_19 rfl rfl ?_ <;> try (refine T_bipush (v := (nI 8)) (pc1 := 23) (pc := 21) k_Wr_spotsWithin_21 rfl (by decide) ?_ <;> try ((first | (with_reducible refine T_icmp_geN (tgt := 52) (pc1 := 26) (pc := 23) k_Wr_spotsWithin_23 (by decide) (by decide) (by omega) (by omega) (fun hc => ?_) (fun hc => ?_) <;> first | (exfalso; omega) | skip) | refine T_icmp_ge_t (tgt := 52) (pc := 23) k_Wr_spotsWithin_23 rfl (by decide) ?_ | refine T_icmp_ge_f (tgt := 52) (pc1 := 26) (pc := 23) k_Wr_spotsWithin_23 rfl rfl (by decide) ?_ | refine T_icmp_ge (tgt := 52) (pc1 := 26) (pc := 23) k_Wr_spotsWithin_23 rfl rfl (fun hc => ?_) (fun hc => ?_)))))
        | (refine T_iload (pc1 := 54) (pc := 52) k_Wr_spotsWithin_52 rfl rfl ?_ <;> try (refine T_retI (pc := 54) k_Wr_spotsWithin_54 rfl (by first | rfl | decide | assumption) ?_))
        | refine T_bipush (v := (nI 8)) (pc1 := 23) (pc := 21) k_Wr_spotsWithin_21 rfl (by decide) ?_
        | (with_reducible refine T_icmp_geN (tgt := 52) (pc1 := 26) (pc := 23) k_Wr_spotsWithin_23 (by decide) (by decide) (by omega) (by omega) (fun hc => ?_) (fun hc => ?_) <;> first | (exfalso; omega) | skip)
        | refine T_icmp_ge_t (tgt := 52) (pc := 23) k_Wr_spotsWithin_23 rfl (by decide) ?_
        | refine T_icmp_ge_f (tgt := 52) (pc1 := 26) (pc := 23) k_Wr_spotsWithin_23 rfl rfl (by decide) ?_
        | refine T_icmp_ge (tgt := 52) (pc1 := 26) (pc := 23) k_Wr_spotsWithin_23 rfl rfl (fun hc => ?_) (fun hc => ?_)
        | refine T_retI (pc := 54) k_Wr_spotsWithin_54 rfl (by first | rfl | decide | assumption) ?_)
      exact kk J hJ
    | succ q ih =>
      intro s J hs hJ hD
      have eD := hD s (by omega)
      have hle := dst_le (c := bcs N tn (-1)) (goal := fr) (okL_E ok) s
      have ih := ih (s + 1) J (by omega) hJ hD
      have hm := msk_lt (p := fun s => decide (dst (ed N) (bcs N tn (-1)) n fr s ≤ x)) s (by omega)
      rw [msk] at ih
      generalize msk (fun s => decide (dst (ed N) (bcs N tn (-1)) n fr s ≤ x)) s = F at *
      have hp : 2 ^ s < 2 ^ 14 := Nat.pow_lt_pow_right (by decide) (by omega)
      refine T_iload (pc1 := 21) (pc := 19) k_Wr_spotsWithin_19 rfl rfl ?_
      repeat' (first
        | (refine T_bipush (v := (nI 8)) (pc1 := 23) (pc := 21) k_Wr_spotsWithin_21 rfl (by decide) ?_ <;> try ((first | (with_reducible refine T_icmp_geN (tgt := 52) (pc1 := 26) (pc := 23) k_Wr_spotsWithin_23 (by decide) (by decide) (by omega) (by omega) (fun hc => ?_) (fun hc => ?_) <;> first | (exfalso; omega) | skip) | refine T_icmp_ge_t (tgt := 52) (pc := 23) k_Wr_spotsWithin_23 rfl (by decide) ?_ | refine T_icmp_ge_f (tgt := 52) (pc1 := 26) (pc := 23) k_Wr_spotsWithin_23 rfl rfl (by decide) ?_ | refine T_icmp_ge (tgt := 52) (pc1 := 26) (pc := 23) k_Wr_spotsWithin_23 rfl rfl (fun hc => ?_) (fun hc => ?_))))
        | ((first | refine T_aload_n (pc1 := 27) (pc := 26) k_Wr_spotsWithin_26 rfl rfl ?_ | refine T_aload_nN (pc1 := 27) (pc := 26) k_Wr_spotsWithin_26 rfl rfl ?_) <;> try (refine T_getR (pc1 := 30) (pc := 27) k_Wr_spotsWithin_27 rfl f_Wr_15 rfl (by first | assumption | exact ga G (by decide) rfl | exact lgA LG (by omega)) (by first | assumption | exact gr G (by decide) rfl | exact lgR LG (by omega)) ?_ <;> try (refine T_iload (pc1 := 32) (pc := 30) k_Wr_spotsWithin_30 rfl rfl ?_ <;> try ((first | refine T_ialdN (pc1 := 33) (pc := 32) k_Wr_spotsWithin_32 rfl (by first | assumption | exact ga G (by decide) rfl | exact lgA LG (by omega)) (by omega) (by omega) (by first | assumption | (simp (disch := omega) only [pI_eq, pI_row, pI_col, va_up_self, va_up_ne, ne_eq, not_false_eq_true] <;> rfl) | rfl) ?_ | refine T_iald (pc1 := 33) (pc := 32) k_Wr_spotsWithin_32 rfl (by first | assumption | exact ga G (by decide) rfl | exact lgA LG (by omega)) (by assumption) ?_) <;> try (refine T_iload_n (pc1 := 34) (pc := 33) k_Wr_spotsWithin_33 rfl rfl ?_ <;> try ((first | (with_reducible refine T_icmp_gtN (tgt := 46) (pc1 := 37) (pc := 34) k_Wr_spotsWithin_34 (by decide) (by decide) (by omega) (by omega) (fun hc => ?_) (fun hc => ?_) <;> first | (exfalso; omega) | skip) | refine T_icmp_gt_t (tgt := 46) (pc := 34) k_Wr_spotsWithin_34 rfl (by decide) ?_ | refine T_icmp_gt_f (tgt := 46) (pc1 := 37) (pc := 34) k_Wr_spotsWithin_34 rfl rfl (by decide) ?_ | refine T_icmp_gt (tgt := 46) (pc1 := 37) (pc := 34) k_Wr_spotsWithin_34 rfl rfl (fun hc => ?_) (fun hc => ?_))))))))
        | (refine T_iload (pc1 := 39) (pc := 37) k_Wr_spotsWithin_37 rfl rfl ?_ <;> try (refine T_iconst (v := (nI 1)) (pc1 := 40) (pc := 39) k_Wr_spotsWithin_39 rfl (by decide) ?_ <;> try (refine T_iload (pc1 := 42) (pc := 40) k_Wr_spotsWithin_40 rfl rfl ?_ <;> try ((refine T_ishl (pc1 := 43) (pc := 42) k_Wr_spotsWithin_42 rfl ?_; rw [shl_nI s (by omega)]) <;> try ((refine T_ior (pc1 := 44) (pc := 43) k_Wr_spotsWithin_43 rfl ?_; rw [or_nI (by omega) (by omega)]) <;> try (refine T_istore (pc1 := 46) (pc := 44) k_Wr_spotsWithin_44 rfl (Nat.le_of_ble_eq_true rfl) ?_))))))
        | ((first | refine T_iincN (b := 1) (pc1 := 49) (pc := 46) k_Wr_spotsWithin_46 rfl rfl (by decide) ?_ | refine T_iinc (v := (nI 1)) (pc1 := 49) (pc := 46) k_Wr_spotsWithin_46 rfl rfl (by decide) ?_) <;> try (refine T_goto (tgt := 19) (pc := 49) k_Wr_spotsWithin_49 rfl ?_))
        | (with_reducible refine T_icmp_geN (tgt := 52) (pc1 := 26) (pc := 23) k_Wr_spotsWithin_23 (by decide) (by decide) (by omega) (by omega) (fun hc => ?_) (fun hc => ?_) <;> first | (exfalso; omega) | skip)
        | refine T_icmp_ge_t (tgt := 52) (pc := 23) k_Wr_spotsWithin_23 rfl (by decide) ?_
        | refine T_icmp_ge_f (tgt := 52) (pc1 := 26) (pc := 23) k_Wr_spotsWithin_23 rfl rfl (by decide) ?_
        | refine T_icmp_ge (tgt := 52) (pc1 := 26) (pc := 23) k_Wr_spotsWithin_23 rfl rfl (fun hc => ?_) (fun hc => ?_)
        | refine T_getR (pc1 := 30) (pc := 27) k_Wr_spotsWithin_27 rfl f_Wr_15 rfl (by first | assumption | exact ga G (by decide) rfl | exact lgA LG (by omega)) (by first | assumption | exact gr G (by decide) rfl | exact lgR LG (by omega)) ?_
        | refine T_iload (pc1 := 32) (pc := 30) k_Wr_spotsWithin_30 rfl rfl ?_
        | refine T_ialdN (pc1 := 33) (pc := 32) k_Wr_spotsWithin_32 rfl (by first | assumption | exact ga G (by decide) rfl | exact lgA LG (by omega)) (by omega) (by omega) (by first | assumption | (simp (disch := omega) only [pI_eq, pI_row, pI_col, va_up_self, va_up_ne, ne_eq, not_false_eq_true] <;> rfl) | rfl) ?_
        | refine T_iald (pc1 := 33) (pc := 32) k_Wr_spotsWithin_32 rfl (by first | assumption | exact ga G (by decide) rfl | exact lgA LG (by omega)) (by assumption) ?_
        | refine T_iload_n (pc1 := 34) (pc := 33) k_Wr_spotsWithin_33 rfl rfl ?_
        | (with_reducible refine T_icmp_gtN (tgt := 46) (pc1 := 37) (pc := 34) k_Wr_spotsWithin_34 (by decide) (by decide) (by omega) (by omega) (fun hc => ?_) (fun hc => ?_) <;> first | (exfalso; omega) | skip)
        | refine T_icmp_gt_t (tgt := 46) (pc := 34) k_Wr_spotsWithin_34 rfl (by decide) ?_
        | refine T_icmp_gt_f (tgt := 46) (pc1 := 37) (pc := 34) k_Wr_spotsWithin_34 rfl rfl (by decide) ?_
        | refine T_icmp_gt (tgt := 46) (pc1 := 37) (pc := 34) k_Wr_spotsWithin_34 rfl rfl (fun hc => ?_) (fun hc => ?_)
        | refine T_iconst (v := (nI 1)) (pc1 := 40) (pc := 39) k_Wr_spotsWithin_39 rfl (by decide) ?_
        | refine T_iload (pc1 := 42) (pc := 40) k_Wr_spotsWithin_40 rfl rfl ?_
        | (refine T_ishl (pc1 := 43) (pc := 42) k_Wr_spotsWithin_42 rfl ?_; rw [shl_nI s (by omega)])
        | (refine T_ior (pc1 := 44) (pc := 43) k_Wr_spotsWithin_43 rfl ?_; rw [or_nI (by omega) (by omega)])
        | refine T_istore (pc1 := 46) (pc := 44) k_Wr_spotsWithin_44 rfl (Nat.le_of_ble_eq_true rfl) ?_
        | refine T_goto (tgt := 19) (pc := 49) k_Wr_spotsWithin_49 rfl ?_)
      all_goals try (exfalso; omega)
      · rw [if_neg (by rw [decide_eq_true_eq]; omega), Nat.or_zero] at ih
        exact ih
      · rw [if_pos (by rw [decide_eq_true_eq]; omega)] at ih
        exact ih
  repeat' (first
    | ((first | refine T_aload_n (pc1 := 1) (pc := 0) k_Wr_spotsWithin_0 rfl rfl ?_ | refine T_aload_nN (pc1 := 1) (pc := 0) k_Wr_spotsWithin_0 rfl rfl ?_) <;> try ((first | refine T_aload_n (pc1 := 2) (pc := 1) k_Wr_spotsWithin_1 rfl rfl ?_ | refine T_aload_nN (pc1 := 2) (pc := 1) k_Wr_spotsWithin_1 rfl rfl ?_) <;> try (refine T_ldc (v := (-1000000005)) (pc1 := 4) (pc := 2) k_Wr_spotsWithin_2 rfl c_Wr_49 ?_ <;> try ((refine T_cV (As := [_, _]) (d1 := 5) (pc1 := 7) (pc := 4) k_Wr_spotsWithin_4 rfl (by decide) (Nat.le_of_ble_eq_true rfl) rfl o_Wr_weighByMinutes l_Wr_113 rfl (by first | assumption | exact ga G (by decide) rfl | exact lgA LG (by omega)) rfl (c_Wr_weighByMinutes G LG ok hL.1 hL.2.1 (fun J hJ hJc => ?_)) <;> try dsimp only [psh])))))
    | refine T_aload_n (pc1 := 2) (pc := 1) k_Wr_spotsWithin_1 rfl rfl ?_
    | refine T_aload_nN (pc1 := 2) (pc := 1) k_Wr_spotsWithin_1 rfl rfl ?_
    | refine T_ldc (v := (-1000000005)) (pc1 := 4) (pc := 2) k_Wr_spotsWithin_2 rfl c_Wr_49 ?_
    | (refine T_cV (As := [_, _]) (d1 := 5) (pc1 := 7) (pc := 4) k_Wr_spotsWithin_4 rfl (by decide) (Nat.le_of_ble_eq_true rfl) rfl o_Wr_weighByMinutes l_Wr_113 rfl (by first | assumption | exact ga G (by decide) rfl | exact lgA LG (by omega)) rfl (c_Wr_weighByMinutes G LG ok hL.1 hL.2.1 (fun J hJ hJc => ?_)) <;> try dsimp only [psh]))
  have LB2 := LBt_fr hL.2.1 h14 hJ (fun i => cf_l g14)
  repeat' (first
    | ((first | refine T_aload_n (pc1 := 8) (pc := 7) k_Wr_spotsWithin_7 rfl rfl ?_ | refine T_aload_nN (pc1 := 8) (pc := 7) k_Wr_spotsWithin_7 rfl rfl ?_) <;> try ((first | refine T_aload_n (pc1 := 9) (pc := 8) k_Wr_spotsWithin_8 rfl rfl ?_ | refine T_aload_nN (pc1 := 9) (pc := 8) k_Wr_spotsWithin_8 rfl rfl ?_) <;> try (refine T_iload_n (pc1 := 10) (pc := 9) k_Wr_spotsWithin_9 rfl rfl ?_ <;> try ((refine T_cV (As := [_, _]) (d1 := 2) (pc1 := 13) (pc := 10) k_Wr_spotsWithin_10 rfl (by decide) (Nat.le_of_ble_eq_true rfl) rfl o_Wr_measure l_Wr_41 rfl (by first | assumption | exact ga G (by decide) rfl | exact lgA LG (by omega)) rfl (c_Wr_measure (c := bcs N tn cNONE) G LG ok LB2 hf hJc (fun b hb => bcs_le ok hb) (fun J2 hJ2 hD => ?_)) <;> try dsimp only [psh]) <;> try (refine T_iconst (v := (nI 0)) (pc1 := 14) (pc := 13) k_Wr_spotsWithin_13 rfl (by decide) ?_ <;> try (refine T_istore (pc1 := 16) (pc := 14) k_Wr_spotsWithin_14 rfl (Nat.le_of_ble_eq_true rfl) ?_ <;> try (refine T_iconst (v := (nI 0)) (pc1 := 17) (pc := 16) k_Wr_spotsWithin_16 rfl (by decide) ?_ <;> try (refine T_istore (pc1 := 19) (pc := 17) k_Wr_spotsWithin_17 rfl (Nat.le_of_ble_eq_true rfl) ?_))))))))
    | refine T_aload_n (pc1 := 9) (pc := 8) k_Wr_spotsWithin_8 rfl rfl ?_
    | refine T_aload_nN (pc1 := 9) (pc := 8) k_Wr_spotsWithin_8 rfl rfl ?_
    | refine T_iload_n (pc1 := 10) (pc := 9) k_Wr_spotsWithin_9 rfl rfl ?_
    | (refine T_cV (As := [_, _]) (d1 := 2) (pc1 := 13) (pc := 10) k_Wr_spotsWithin_10 rfl (by decide) (Nat.le_of_ble_eq_true rfl) rfl o_Wr_measure l_Wr_41 rfl (by first | assumption | exact ga G (by decide) rfl | exact lgA LG (by omega)) rfl (c_Wr_measure (c := bcs N tn cNONE) G LG ok LB2 hf hJc (fun b hb => bcs_le ok hb) (fun J2 hJ2 hD => ?_)) <;> try dsimp only [psh])
    | refine T_iconst (v := (nI 0)) (pc1 := 14) (pc := 13) k_Wr_spotsWithin_13 rfl (by decide) ?_
    | refine T_istore (pc1 := 16) (pc := 14) k_Wr_spotsWithin_14 rfl (Nat.le_of_ble_eq_true rfl) ?_
    | refine T_iconst (v := (nI 0)) (pc1 := 17) (pc := 16) k_Wr_spotsWithin_16 rfl (by decide) ?_
    | refine T_istore (pc1 := 19) (pc := 17) k_Wr_spotsWithin_17 rfl (Nat.le_of_ble_eq_true rfl) ?_)
  rw [dst_none h14] at hD
  exact loop 8 0 J2 (by omega) (fr_tr (fr_mono hJ (fun i => cf_f)) (fr_x hJ2 (fun i hi => Or.inr (Or.inl (by simpa using hi))))) hD
theorem c_S_reach {N : Row} {n tn : Nat} {f m : Int32} (G : GeoOK g) (ok : okL N n tn) (hL : LaR g I 1 N n tn) (kk : ∀ J r, fre ff I J → r = reachA N n tn f m → K (some (.int r)) g J) : Cl 7 M_S_reach [.ref 0, .int f, .int m] g I K := by
  show Rl 7 M_S_reach 0 [some (.ref 0), some (.int f), some (.int m)] [] g I K
  have LG := land_1 G
  have e0 : (nI 0).toInt = 0 := rfl
  have e999 : (nI 999).toInt = 999 := rfl
  by_cases hok : rg 8 f ∧ bt 0 999 m
  · rw [reachA, if_pos hok] at kk
    obtain ⟨a, ha, rfl⟩ := rg_of hok.1 (by omega)
    obtain ⟨x, -, hx, rfl⟩ := bt_of (lo := 0) (hi := 999) hok.2 (by omega)
    have ex := nI_toInt (n := x) (by omega)
    rw [nI_clamp (by omega), nI_clamp (by omega)] at kk
    repeat' (first
      | (refine T_iload_n (pc1 := 1) (pc := 0) k_S_reach_0 rfl rfl ?_ <;> try ((refine T_cS (As := [_]) (d1 := 2) (pc1 := 4) (pc := 1) k_S_reach_1 rfl (by decide) (Nat.le_of_ble_eq_true rfl) rfl o_S_isSpot l_S_212 rfl (c_S_isSpot (fun hw => ?_) (fun hw => ?_)) <;> try dsimp only [psh]) <;> try ((first | (with_reducible refine T_if_eqN (tgt := 18) (pc1 := 7) (pc := 4) k_S_reach_4 (by decide) (by decide) (by omega) (fun hc => ?_) (fun hc => ?_) <;> first | (exfalso; omega) | skip) | refine T_if_eq_t (tgt := 18) (pc := 4) k_S_reach_4 rfl (by decide) ?_ | refine T_if_eq_f (tgt := 18) (pc1 := 7) (pc := 4) k_S_reach_4 rfl rfl (by decide) ?_ | refine T_if_eq (tgt := 18) (pc1 := 7) (pc := 4) k_S_reach_4 rfl rfl (fun hc => ?_) (fun hc => ?_)))))
      | (refine T_iload_n (pc1 := 8) (pc := 7) k_S_reach_7 rfl rfl ?_ <;> try (refine T_iconst (v := (nI 0)) (pc1 := 9) (pc := 8) k_S_reach_8 rfl (by decide) ?_ <;> try (refine T_sipush (v := (nI 999)) (pc1 := 12) (pc := 9) k_S_reach_9 rfl (by decide) ?_ <;> try ((refine T_cS (As := [_, _, _]) (d1 := 1) (pc1 := 15) (pc := 12) k_S_reach_12 rfl (by decide) (Nat.le_of_ble_eq_true rfl) rfl o_S_isWithin l_S_77 rfl (c_S_isWithin (fun hw => ?_) (fun hw => ?_)) <;> try dsimp only [psh]) <;> try ((first | (with_reducible refine T_if_neN (tgt := 21) (pc1 := 18) (pc := 15) k_S_reach_15 (by decide) (by decide) (by omega) (fun hc => ?_) (fun hc => ?_) <;> first | (exfalso; omega) | skip) | refine T_if_ne_t (tgt := 21) (pc := 15) k_S_reach_15 rfl (by decide) ?_ | refine T_if_ne_f (tgt := 21) (pc1 := 18) (pc := 15) k_S_reach_15 rfl rfl (by decide) ?_ | refine T_if_ne (tgt := 21) (pc1 := 18) (pc := 15) k_S_reach_15 rfl rfl (fun hc => ?_) (fun hc => ?_)))))))
      | (refine T_ldc (v := (-1000000001)) (pc1 := 20) (pc := 18) k_S_reach_18 rfl c_S_81 ?_ <;> try (refine T_retI (pc := 20) k_S_reach_20 rfl (by first | rfl | decide | assumption) ?_))
      | ((first | refine T_aload_n (pc1 := 22) (pc := 21) k_S_reach_21 rfl rfl ?_ | refine T_aload_nN (pc1 := 22) (pc := 21) k_S_reach_21 rfl rfl ?_) <;> try (refine T_getR (pc1 := 25) (pc := 22) k_S_reach_22 rfl f_S_36 rfl (by first | assumption | exact ga G (by decide) rfl | exact lgA LG (by omega)) (by first | assumption | exact gr G (by decide) rfl | exact lgR LG (by omega)) ?_ <;> try ((first | refine T_aload_n (pc1 := 26) (pc := 25) k_S_reach_25 rfl rfl ?_ | refine T_aload_nN (pc1 := 26) (pc := 25) k_S_reach_25 rfl rfl ?_) <;> try (refine T_getR (pc1 := 29) (pc := 26) k_S_reach_26 rfl f_S_10 rfl (by first | assumption | exact ga G (by decide) rfl | exact lgA LG (by omega)) (by first | assumption | exact gr G (by decide) rfl | exact lgR LG (by omega)) ?_ <;> try (refine T_iload_n (pc1 := 30) (pc := 29) k_S_reach_29 rfl rfl ?_ <;> try (refine T_iload_n (pc1 := 31) (pc := 30) k_S_reach_30 rfl rfl ?_ <;> try ((refine T_cV (As := [_, _, _]) (d1 := 6) (pc1 := 34) (pc := 31) k_S_reach_31 rfl (by decide) (Nat.le_of_ble_eq_true rfl) rfl o_Wr_spotsWithin l_S_215 rfl (by first | assumption | exact ga G (by decide) rfl | exact lgA LG (by omega)) rfl (c_Wr_spotsWithin G LG ok hL ha hx (fun J hJ => ?_)) <;> try dsimp only [psh]) <;> try (refine T_retI (pc := 34) k_S_reach_34 rfl (by first | rfl | decide | assumption) ?_))))))))
      | (refine T_cS (As := [_]) (d1 := 2) (pc1 := 4) (pc := 1) k_S_reach_1 rfl (by decide) (Nat.le_of_ble_eq_true rfl) rfl o_S_isSpot l_S_212 rfl (c_S_isSpot (fun hw => ?_) (fun hw => ?_)) <;> try dsimp only [psh])
      | (with_reducible refine T_if_eqN (tgt := 18) (pc1 := 7) (pc := 4) k_S_reach_4 (by decide) (by decide) (by omega) (fun hc => ?_) (fun hc => ?_) <;> first | (exfalso; omega) | skip)
      | refine T_if_eq_t (tgt := 18) (pc := 4) k_S_reach_4 rfl (by decide) ?_
      | refine T_if_eq_f (tgt := 18) (pc1 := 7) (pc := 4) k_S_reach_4 rfl rfl (by decide) ?_
      | refine T_if_eq (tgt := 18) (pc1 := 7) (pc := 4) k_S_reach_4 rfl rfl (fun hc => ?_) (fun hc => ?_)
      | refine T_iconst (v := (nI 0)) (pc1 := 9) (pc := 8) k_S_reach_8 rfl (by decide) ?_
      | refine T_sipush (v := (nI 999)) (pc1 := 12) (pc := 9) k_S_reach_9 rfl (by decide) ?_
      | (refine T_cS (As := [_, _, _]) (d1 := 1) (pc1 := 15) (pc := 12) k_S_reach_12 rfl (by decide) (Nat.le_of_ble_eq_true rfl) rfl o_S_isWithin l_S_77 rfl (c_S_isWithin (fun hw => ?_) (fun hw => ?_)) <;> try dsimp only [psh])
      | (with_reducible refine T_if_neN (tgt := 21) (pc1 := 18) (pc := 15) k_S_reach_15 (by decide) (by decide) (by omega) (fun hc => ?_) (fun hc => ?_) <;> first | (exfalso; omega) | skip)
      | refine T_if_ne_t (tgt := 21) (pc := 15) k_S_reach_15 rfl (by decide) ?_
      | refine T_if_ne_f (tgt := 21) (pc1 := 18) (pc := 15) k_S_reach_15 rfl rfl (by decide) ?_
      | refine T_if_ne (tgt := 21) (pc1 := 18) (pc := 15) k_S_reach_15 rfl rfl (fun hc => ?_) (fun hc => ?_)
      | refine T_retI (pc := 20) k_S_reach_20 rfl (by first | rfl | decide | assumption) ?_
      | refine T_getR (pc1 := 25) (pc := 22) k_S_reach_22 rfl f_S_36 rfl (by first | assumption | exact ga G (by decide) rfl | exact lgA LG (by omega)) (by first | assumption | exact gr G (by decide) rfl | exact lgR LG (by omega)) ?_
      | refine T_aload_n (pc1 := 26) (pc := 25) k_S_reach_25 rfl rfl ?_
      | refine T_aload_nN (pc1 := 26) (pc := 25) k_S_reach_25 rfl rfl ?_
      | refine T_getR (pc1 := 29) (pc := 26) k_S_reach_26 rfl f_S_10 rfl (by first | assumption | exact ga G (by decide) rfl | exact lgA LG (by omega)) (by first | assumption | exact gr G (by decide) rfl | exact lgR LG (by omega)) ?_
      | refine T_iload_n (pc1 := 30) (pc := 29) k_S_reach_29 rfl rfl ?_
      | refine T_iload_n (pc1 := 31) (pc := 30) k_S_reach_30 rfl rfl ?_
      | (refine T_cV (As := [_, _, _]) (d1 := 6) (pc1 := 34) (pc := 31) k_S_reach_31 rfl (by decide) (Nat.le_of_ble_eq_true rfl) rfl o_Wr_spotsWithin l_S_215 rfl (by first | assumption | exact ga G (by decide) rfl | exact lgA LG (by omega)) rfl (c_Wr_spotsWithin G LG ok hL ha hx (fun J hJ => ?_)) <;> try dsimp only [psh])
      | refine T_retI (pc := 34) k_S_reach_34 rfl (by first | rfl | decide | assumption) ?_)
    all_goals first | exact kk J _ hJ rfl | (exfalso; exact hw hok.1) | (exfalso; apply hw; constructor <;> omega)
  · rw [reachA, if_neg hok] at kk
    have kk := kk I _ fr_rf rfl
    repeat' (first
      | (refine T_iload_n (pc1 := 1) (pc := 0) k_S_reach_0 rfl rfl ?_ <;> try ((refine T_cS (As := [_]) (d1 := 2) (pc1 := 4) (pc := 1) k_S_reach_1 rfl (by decide) (Nat.le_of_ble_eq_true rfl) rfl o_S_isSpot l_S_212 rfl (c_S_isSpot (fun hw => ?_) (fun hw => ?_)) <;> try dsimp only [psh]) <;> try ((first | (with_reducible refine T_if_eqN (tgt := 18) (pc1 := 7) (pc := 4) k_S_reach_4 (by decide) (by decide) (by omega) (fun hc => ?_) (fun hc => ?_) <;> first | (exfalso; omega) | skip) | refine T_if_eq_t (tgt := 18) (pc := 4) k_S_reach_4 rfl (by decide) ?_ | refine T_if_eq_f (tgt := 18) (pc1 := 7) (pc := 4) k_S_reach_4 rfl rfl (by decide) ?_ | refine T_if_eq (tgt := 18) (pc1 := 7) (pc := 4) k_S_reach_4 rfl rfl (fun hc => ?_) (fun hc => ?_)))))
      | (refine T_iload_n (pc1 := 8) (pc := 7) k_S_reach_7 rfl rfl ?_ <;> try (refine T_iconst (v := (nI 0)) (pc1 := 9) (pc := 8) k_S_reach_8 rfl (by decide) ?_ <;> try (refine T_sipush (v := (nI 999)) (pc1 := 12) (pc := 9) k_S_reach_9 rfl (by decide) ?_ <;> try ((refine T_cS (As := [_, _, _]) (d1 := 1) (pc1 := 15) (pc := 12) k_S_reach_12 rfl (by decide) (Nat.le_of_ble_eq_true rfl) rfl o_S_isWithin l_S_77 rfl (c_S_isWithin (fun hw => ?_) (fun hw => ?_)) <;> try dsimp only [psh]) <;> try ((first | (with_reducible refine T_if_neN (tgt := 21) (pc1 := 18) (pc := 15) k_S_reach_15 (by decide) (by decide) (by omega) (fun hc => ?_) (fun hc => ?_) <;> first | (exfalso; omega) | skip) | refine T_if_ne_t (tgt := 21) (pc := 15) k_S_reach_15 rfl (by decide) ?_ | refine T_if_ne_f (tgt := 21) (pc1 := 18) (pc := 15) k_S_reach_15 rfl rfl (by decide) ?_ | refine T_if_ne (tgt := 21) (pc1 := 18) (pc := 15) k_S_reach_15 rfl rfl (fun hc => ?_) (fun hc => ?_)))))))
      | (refine T_ldc (v := (-1000000001)) (pc1 := 20) (pc := 18) k_S_reach_18 rfl c_S_81 ?_ <;> try (refine T_retI (pc := 20) k_S_reach_20 rfl (by first | rfl | decide | assumption) ?_))
      | (refine T_cS (As := [_]) (d1 := 2) (pc1 := 4) (pc := 1) k_S_reach_1 rfl (by decide) (Nat.le_of_ble_eq_true rfl) rfl o_S_isSpot l_S_212 rfl (c_S_isSpot (fun hw => ?_) (fun hw => ?_)) <;> try dsimp only [psh])
      | (with_reducible refine T_if_eqN (tgt := 18) (pc1 := 7) (pc := 4) k_S_reach_4 (by decide) (by decide) (by omega) (fun hc => ?_) (fun hc => ?_) <;> first | (exfalso; omega) | skip)
      | refine T_if_eq_t (tgt := 18) (pc := 4) k_S_reach_4 rfl (by decide) ?_
      | refine T_if_eq_f (tgt := 18) (pc1 := 7) (pc := 4) k_S_reach_4 rfl rfl (by decide) ?_
      | refine T_if_eq (tgt := 18) (pc1 := 7) (pc := 4) k_S_reach_4 rfl rfl (fun hc => ?_) (fun hc => ?_)
      | refine T_iconst (v := (nI 0)) (pc1 := 9) (pc := 8) k_S_reach_8 rfl (by decide) ?_
      | refine T_sipush (v := (nI 999)) (pc1 := 12) (pc := 9) k_S_reach_9 rfl (by decide) ?_
      | (refine T_cS (As := [_, _, _]) (d1 := 1) (pc1 := 15) (pc := 12) k_S_reach_12 rfl (by decide) (Nat.le_of_ble_eq_true rfl) rfl o_S_isWithin l_S_77 rfl (c_S_isWithin (fun hw => ?_) (fun hw => ?_)) <;> try dsimp only [psh])
      | (with_reducible refine T_if_neN (tgt := 21) (pc1 := 18) (pc := 15) k_S_reach_15 (by decide) (by decide) (by omega) (fun hc => ?_) (fun hc => ?_) <;> first | (exfalso; omega) | skip)
      | refine T_if_ne_t (tgt := 21) (pc := 15) k_S_reach_15 rfl (by decide) ?_
      | refine T_if_ne_f (tgt := 21) (pc1 := 18) (pc := 15) k_S_reach_15 rfl rfl (by decide) ?_
      | refine T_if_ne (tgt := 21) (pc1 := 18) (pc := 15) k_S_reach_15 rfl rfl (fun hc => ?_) (fun hc => ?_)
      | refine T_retI (pc := 20) k_S_reach_20 rfl (by first | rfl | decide | assumption) ?_)
    all_goals first | exact kk | (exfalso; exact hok ⟨by assumption, by constructor <;> omega⟩)
set_option maxHeartbeats 4000000 in
theorem c_S_ever {N : Row} {n tn : Nat} {f t m : Int32} (G : GeoOK g) (ok : okL N n tn) (okw : okW N) (hL : LaR g I 1 N n tn) (kk : ∀ g' J r, GeoOK g' → GS 43 g g' → fre tf I J → r = everA N n tn f t m → K (some (.int r)) g' J) : Cl 7 M_S_ever [.ref 0, .int f, .int t, .int m] g I K := by
  show Rl 7 M_S_ever 0 [some (.ref 0), some (.int f), some (.int t), some (.int m), none, none] [] g I K
  have LG := land_1 G
  have h14 := ok.2.1
  have e0 : (nI 1).toInt = 1 := rfl
  have e40 : (nI 40).toInt = 40 := rfl
  by_cases hok : (rg 8 f ∧ rg 8 t) ∧ bt 1 40 m
  · rw [everA, if_pos hok] at kk
    obtain ⟨a, ha, rfl⟩ := rg_of hok.1.1 (by omega)
    obtain ⟨c, hc8, rfl⟩ := rg_of hok.1.2 (by omega)
    obtain ⟨x, hx1, hx, rfl⟩ := bt_of (lo := 1) (hi := 40) hok.2 (by omega)
    have ex := nI_toInt (n := x) (by omega)
    rw [nI_clamp (by omega), nI_clamp (by omega), nI_clamp (by omega)] at kk
    have loop : ∀ q k (g' : Geo) (J : IM), k + q = x → GeoOK g' → GS 43 g g' → fre tf I J → LaR g' J 41 (itN N n tn a c k) n tn → Rl 7 M_S_ever 38 [some (.ref 0), some (.int (nI a)), some (.int (nI c)), some (.int (nI x)), some (.int (nI (evF N n tn a c k))), some (.int (nI k))] [] g' J K := by
      intro q
      induction q with
      | zero =>
        intro k g' J hk G hg hJ hJL
        have hk : k = x := by omega
        subst hk
        repeat' (first
          | (refine T_iload (pc1 := 40) (pc := 38) k_S_ever_38 rfl rfl ?_ <;> try (refine T_iload_n (pc1 := 41) (pc := 40) k_S_ever_40 rfl rfl ?_ <;> try ((first | (with_reducible refine T_icmp_geN (tgt := 79) (pc1 := 44) (pc := 41) k_S_ever_41 (by decide) (by decide) (by omega) (by omega) (fun hc => ?_) (fun hc => ?_) <;> first | (exfalso; omega) | skip) | refine T_icmp_ge_t (tgt := 79) (pc := 41) k_S_ever_41 rfl (by decide) ?_ | refine T_icmp_ge_f (tgt := 79) (pc1 := 44) (pc := 41) k_S_ever_41 rfl rfl (by decide) ?_ | refine T_icmp_ge (tgt := 79) (pc1 := 44) (pc := 41) k_S_ever_41 rfl rfl (fun hc => ?_) (fun hc => ?_)))))
          | (refine T_iload (pc1 := 81) (pc := 79) k_S_ever_79 rfl rfl ?_ <;> try (refine T_retI (pc := 81) k_S_ever_81 rfl (by first | rfl | decide | assumption) ?_))
          | refine T_iload_n (pc1 := 41) (pc := 40) k_S_ever_40 rfl rfl ?_
          | (with_reducible refine T_icmp_geN (tgt := 79) (pc1 := 44) (pc := 41) k_S_ever_41 (by decide) (by decide) (by omega) (by omega) (fun hc => ?_) (fun hc => ?_) <;> first | (exfalso; omega) | skip)
          | refine T_icmp_ge_t (tgt := 79) (pc := 41) k_S_ever_41 rfl (by decide) ?_
          | refine T_icmp_ge_f (tgt := 79) (pc1 := 44) (pc := 41) k_S_ever_41 rfl rfl (by decide) ?_
          | refine T_icmp_ge (tgt := 79) (pc1 := 44) (pc := 41) k_S_ever_41 rfl rfl (fun hc => ?_) (fun hc => ?_)
          | refine T_retI (pc := 81) k_S_ever_81 rfl (by first | rfl | decide | assumption) ?_)
        exact kk g' J _ G hg hJ rfl
      | succ q ih =>
        intro k g' J hk G hg hJ hJL
        have L41 := land_41 G
        obtain ⟨g1, g2, g3, g4, g5, g6, g7, g8, g9, g10, g11, g12, g13, g14⟩ := id L41
        obtain ⟨tr, h60, h9, h7, hbb⟩ := itN_okW (fr := a) (to0 := c) ok ha hc8 k
        have ih := ih (k + 1)
        rw [evF, h9, nI_clamp (by omega), tmk_or] at ih
        have hF := evF_lt ok ha hc8 (fr := a) (to0 := c) k
        have hT := tmk_lt (N := itN N n tn a c (k + 1)) (F := 0) (by decide) hbb tr (Nat.le_refl _)
        refine T_iload (pc1 := 40) (pc := 38) k_S_ever_38 rfl rfl ?_
        repeat' (first
          | (refine T_iload_n (pc1 := 41) (pc := 40) k_S_ever_40 rfl rfl ?_ <;> try ((first | (with_reducible refine T_icmp_geN (tgt := 79) (pc1 := 44) (pc := 41) k_S_ever_41 (by decide) (by decide) (by omega) (by omega) (fun hc => ?_) (fun hc => ?_) <;> first | (exfalso; omega) | skip) | refine T_icmp_ge_t (tgt := 79) (pc := 41) k_S_ever_41 rfl (by decide) ?_ | refine T_icmp_ge_f (tgt := 79) (pc1 := 44) (pc := 41) k_S_ever_41 rfl rfl (by decide) ?_ | refine T_icmp_ge (tgt := 79) (pc1 := 44) (pc := 41) k_S_ever_41 rfl rfl (fun hc => ?_) (fun hc => ?_))))
          | ((first | refine T_aload_n (pc1 := 45) (pc := 44) k_S_ever_44 rfl rfl ?_ | refine T_aload_nN (pc1 := 45) (pc := 44) k_S_ever_44 rfl rfl ?_) <;> try (refine T_getR (pc1 := 48) (pc := 45) k_S_ever_45 rfl f_S_36 rfl (by first | assumption | exact ga G (by decide) rfl | exact lgA LG (by omega)) (by first | assumption | exact gr G (by decide) rfl | exact lgR LG (by omega)) ?_ <;> try ((first | refine T_aload_n (pc1 := 49) (pc := 48) k_S_ever_48 rfl rfl ?_ | refine T_aload_nN (pc1 := 49) (pc := 48) k_S_ever_48 rfl rfl ?_) <;> try (refine T_getR (pc1 := 52) (pc := 49) k_S_ever_49 rfl f_S_23 rfl (by first | assumption | exact ga G (by decide) rfl | exact lgA LG (by omega)) (by first | assumption | exact gr G (by decide) rfl | exact lgR LG (by omega)) ?_ <;> try (refine T_iload_n (pc1 := 53) (pc := 52) k_S_ever_52 rfl rfl ?_ <;> try (refine T_iload_n (pc1 := 54) (pc := 53) k_S_ever_53 rfl rfl ?_ <;> try ((refine T_cV (As := [_, _, _]) (d1 := 6) (pc1 := 57) (pc := 54) k_S_ever_54 rfl (by decide) (Nat.le_of_ble_eq_true rfl) rfl o_Wr_go l_S_164 rfl (by first | assumption | exact ga G (by decide) rfl | exact lgA LG (by omega)) rfl (c_Wr_go G L41 (itN_ok ok ha hc8 k).1 hJL ha hc8 (fun J2 hJ2 hJ2L => ?_)) <;> try dsimp only [psh]) <;> try (refine T_pop (pc1 := 58) (pc := 57) k_S_ever_57 rfl rfl ?_))))))))
          | (with_reducible refine T_icmp_geN (tgt := 79) (pc1 := 44) (pc := 41) k_S_ever_41 (by decide) (by decide) (by omega) (by omega) (fun hc => ?_) (fun hc => ?_) <;> first | (exfalso; omega) | skip)
          | refine T_icmp_ge_t (tgt := 79) (pc := 41) k_S_ever_41 rfl (by decide) ?_
          | refine T_icmp_ge_f (tgt := 79) (pc1 := 44) (pc := 41) k_S_ever_41 rfl rfl (by decide) ?_
          | refine T_icmp_ge (tgt := 79) (pc1 := 44) (pc := 41) k_S_ever_41 rfl rfl (fun hc => ?_) (fun hc => ?_)
          | refine T_getR (pc1 := 48) (pc := 45) k_S_ever_45 rfl f_S_36 rfl (by first | assumption | exact ga G (by decide) rfl | exact lgA LG (by omega)) (by first | assumption | exact gr G (by decide) rfl | exact lgR LG (by omega)) ?_
          | refine T_aload_n (pc1 := 49) (pc := 48) k_S_ever_48 rfl rfl ?_
          | refine T_aload_nN (pc1 := 49) (pc := 48) k_S_ever_48 rfl rfl ?_
          | refine T_getR (pc1 := 52) (pc := 49) k_S_ever_49 rfl f_S_23 rfl (by first | assumption | exact ga G (by decide) rfl | exact lgA LG (by omega)) (by first | assumption | exact gr G (by decide) rfl | exact lgR LG (by omega)) ?_
          | refine T_iload_n (pc1 := 53) (pc := 52) k_S_ever_52 rfl rfl ?_
          | refine T_iload_n (pc1 := 54) (pc := 53) k_S_ever_53 rfl rfl ?_
          | (refine T_cV (As := [_, _, _]) (d1 := 6) (pc1 := 57) (pc := 54) k_S_ever_54 rfl (by decide) (Nat.le_of_ble_eq_true rfl) rfl o_Wr_go l_S_164 rfl (by first | assumption | exact ga G (by decide) rfl | exact lgA LG (by omega)) rfl (c_Wr_go G L41 (itN_ok ok ha hc8 k).1 hJL ha hc8 (fun J2 hJ2 hJ2L => ?_)) <;> try dsimp only [psh])
          | refine T_pop (pc1 := 58) (pc := 57) k_S_ever_57 rfl rfl ?_)
        all_goals try (exfalso; omega)
        have hJ2L : LaR g' J2 41 (itN N n tn a c (k + 1)) n tn := hJ2L
        obtain ⟨x0, x1, x2, x3, x4, x5⟩ := id hJ2L.2.2.1
        repeat' (first
          | (refine T_iload (pc1 := 60) (pc := 58) k_S_ever_58 rfl rfl ?_ <;> try ((first | refine T_aload_n (pc1 := 61) (pc := 60) k_S_ever_60 rfl rfl ?_ | refine T_aload_nN (pc1 := 61) (pc := 60) k_S_ever_60 rfl rfl ?_) <;> try (refine T_getR (pc1 := 64) (pc := 61) k_S_ever_61 rfl f_S_23 rfl (by first | assumption | exact ga G (by decide) rfl | exact lgA LG (by omega)) (by first | assumption | exact gr G (by decide) rfl | exact lgR LG (by omega)) ?_ <;> try (refine T_getR (pc1 := 67) (pc := 64) k_S_ever_64 rfl f_S_168 rfl (by first | assumption | exact ga G (by decide) rfl | exact lgA LG (by omega)) (by first | assumption | exact gr G (by decide) rfl | exact lgR LG (by omega)) ?_ <;> try ((refine T_cV (As := []) (d1 := 1) (pc1 := 70) (pc := 67) k_S_ever_67 rfl (by decide) (Nat.le_of_ble_eq_true rfl) rfl o_Wa_bitsTried l_S_218 rfl (by first | assumption | exact ga G (by decide) rfl | exact lgA LG (by omega)) rfl (c_Wa_bitsTried g5 g12 g6 (x2.trans h9) h60 (fun i hi => x5 i (by rw [h9, nI_clamp (by omega)]; exact hi)) hbb ?_) <;> try dsimp only [psh]) <;> try ((refine T_ior (pc1 := 71) (pc := 70) k_S_ever_70 rfl ?_; rw [or_nI (by omega) (by omega)]) <;> try (refine T_istore (pc1 := 73) (pc := 71) k_S_ever_71 rfl (Nat.le_of_ble_eq_true rfl) ?_ <;> try ((first | refine T_iincN (b := 1) (pc1 := 76) (pc := 73) k_S_ever_73 rfl rfl (by decide) ?_ | refine T_iinc (v := (nI 1)) (pc1 := 76) (pc := 73) k_S_ever_73 rfl rfl (by decide) ?_) <;> try (refine T_goto (tgt := 38) (pc := 76) k_S_ever_76 rfl ?_)))))))))
          | refine T_aload_n (pc1 := 61) (pc := 60) k_S_ever_60 rfl rfl ?_
          | refine T_aload_nN (pc1 := 61) (pc := 60) k_S_ever_60 rfl rfl ?_
          | refine T_getR (pc1 := 64) (pc := 61) k_S_ever_61 rfl f_S_23 rfl (by first | assumption | exact ga G (by decide) rfl | exact lgA LG (by omega)) (by first | assumption | exact gr G (by decide) rfl | exact lgR LG (by omega)) ?_
          | refine T_getR (pc1 := 67) (pc := 64) k_S_ever_64 rfl f_S_168 rfl (by first | assumption | exact ga G (by decide) rfl | exact lgA LG (by omega)) (by first | assumption | exact gr G (by decide) rfl | exact lgR LG (by omega)) ?_
          | (refine T_cV (As := []) (d1 := 1) (pc1 := 70) (pc := 67) k_S_ever_67 rfl (by decide) (Nat.le_of_ble_eq_true rfl) rfl o_Wa_bitsTried l_S_218 rfl (by first | assumption | exact ga G (by decide) rfl | exact lgA LG (by omega)) rfl (c_Wa_bitsTried g5 g12 g6 (x2.trans h9) h60 (fun i hi => x5 i (by rw [h9, nI_clamp (by omega)]; exact hi)) hbb ?_) <;> try dsimp only [psh])
          | (refine T_ior (pc1 := 71) (pc := 70) k_S_ever_70 rfl ?_; rw [or_nI (by omega) (by omega)])
          | refine T_istore (pc1 := 73) (pc := 71) k_S_ever_71 rfl (Nat.le_of_ble_eq_true rfl) ?_
          | refine T_iincN (b := 1) (pc1 := 76) (pc := 73) k_S_ever_73 rfl rfl (by decide) ?_
          | refine T_iinc (v := (nI 1)) (pc1 := 76) (pc := 73) k_S_ever_73 rfl rfl (by decide) ?_
          | refine T_goto (tgt := 38) (pc := 76) k_S_ever_76 rfl ?_)
        exact ih g' J2 (by omega) G hg (fr_tr hJ (fr_mono hJ2 (fun i hi => Or.inl hi))) hJ2L
    repeat' (first
      | (refine T_iload_n (pc1 := 1) (pc := 0) k_S_ever_0 rfl rfl ?_ <;> try (refine T_iload_n (pc1 := 2) (pc := 1) k_S_ever_1 rfl rfl ?_ <;> try ((refine T_cS (As := [_, _]) (d1 := 3) (pc1 := 5) (pc := 2) k_S_ever_2 rfl (by decide) (Nat.le_of_ble_eq_true rfl) rfl o_S_areSpots l_S_73 rfl (c_S_areSpots (fun hw => ?_) (fun hw => ?_)) <;> try dsimp only [psh]) <;> try ((first | (with_reducible refine T_if_eqN (tgt := 18) (pc1 := 8) (pc := 5) k_S_ever_5 (by decide) (by decide) (by omega) (fun hc => ?_) (fun hc => ?_) <;> first | (exfalso; omega) | skip) | refine T_if_eq_t (tgt := 18) (pc := 5) k_S_ever_5 rfl (by decide) ?_ | refine T_if_eq_f (tgt := 18) (pc1 := 8) (pc := 5) k_S_ever_5 rfl rfl (by decide) ?_ | refine T_if_eq (tgt := 18) (pc1 := 8) (pc := 5) k_S_ever_5 rfl rfl (fun hc => ?_) (fun hc => ?_))))))
      | (refine T_iload_n (pc1 := 9) (pc := 8) k_S_ever_8 rfl rfl ?_ <;> try (refine T_iconst (v := (nI 1)) (pc1 := 10) (pc := 9) k_S_ever_9 rfl (by decide) ?_ <;> try (refine T_bipush (v := (nI 40)) (pc1 := 12) (pc := 10) k_S_ever_10 rfl (by decide) ?_ <;> try ((refine T_cS (As := [_, _, _]) (d1 := 1) (pc1 := 15) (pc := 12) k_S_ever_12 rfl (by decide) (Nat.le_of_ble_eq_true rfl) rfl o_S_isWithin l_S_77 rfl (c_S_isWithin (fun hw => ?_) (fun hw => ?_)) <;> try dsimp only [psh]) <;> try ((first | (with_reducible refine T_if_neN (tgt := 21) (pc1 := 18) (pc := 15) k_S_ever_15 (by decide) (by decide) (by omega) (fun hc => ?_) (fun hc => ?_) <;> first | (exfalso; omega) | skip) | refine T_if_ne_t (tgt := 21) (pc := 15) k_S_ever_15 rfl (by decide) ?_ | refine T_if_ne_f (tgt := 21) (pc1 := 18) (pc := 15) k_S_ever_15 rfl rfl (by decide) ?_ | refine T_if_ne (tgt := 21) (pc1 := 18) (pc := 15) k_S_ever_15 rfl rfl (fun hc => ?_) (fun hc => ?_)))))))
      | (refine T_ldc (v := (-1000000001)) (pc1 := 20) (pc := 18) k_S_ever_18 rfl c_S_81 ?_ <;> try (refine T_retI (pc := 20) k_S_ever_20 rfl (by first | rfl | decide | assumption) ?_))
      | ((first | refine T_aload_n (pc1 := 22) (pc := 21) k_S_ever_21 rfl rfl ?_ | refine T_aload_nN (pc1 := 22) (pc := 21) k_S_ever_21 rfl rfl ?_) <;> try (refine T_getR (pc1 := 25) (pc := 22) k_S_ever_22 rfl f_S_23 rfl (by first | assumption | exact ga G (by decide) rfl | exact lgA LG (by omega)) (by first | assumption | exact gr G (by decide) rfl | exact lgR LG (by omega)) ?_ <;> try ((first | refine T_aload_n (pc1 := 26) (pc := 25) k_S_ever_25 rfl rfl ?_ | refine T_aload_nN (pc1 := 26) (pc := 25) k_S_ever_25 rfl rfl ?_) <;> try (refine T_getR (pc1 := 29) (pc := 26) k_S_ever_26 rfl f_S_10 rfl (by first | assumption | exact ga G (by decide) rfl | exact lgA LG (by omega)) (by first | assumption | exact gr G (by decide) rfl | exact lgR LG (by omega)) ?_ <;> try ((refine T_cV (As := [_]) (d1 := 2) (pc1 := 32) (pc := 29) k_S_ever_29 rfl (by decide) (Nat.le_of_ble_eq_true rfl) rfl o_La_takeFrom l_S_197 rfl (by first | assumption | exact ga G (by decide) rfl | exact lgA LG (by omega)) rfl (c_think G LG (by decide) ok okw hL (fun g' J2 G hg hJ2 hJ2L => ?_)) <;> try dsimp only [psh]) <;> try (refine T_iconst (v := (nI 0)) (pc1 := 33) (pc := 32) k_S_ever_32 rfl (by decide) ?_ <;> try (refine T_istore (pc1 := 35) (pc := 33) k_S_ever_33 rfl (Nat.le_of_ble_eq_true rfl) ?_ <;> try (refine T_iconst (v := (nI 0)) (pc1 := 36) (pc := 35) k_S_ever_35 rfl (by decide) ?_ <;> try (refine T_istore (pc1 := 38) (pc := 36) k_S_ever_36 rfl (Nat.le_of_ble_eq_true rfl) ?_)))))))))
      | refine T_iload_n (pc1 := 2) (pc := 1) k_S_ever_1 rfl rfl ?_
      | (refine T_cS (As := [_, _]) (d1 := 3) (pc1 := 5) (pc := 2) k_S_ever_2 rfl (by decide) (Nat.le_of_ble_eq_true rfl) rfl o_S_areSpots l_S_73 rfl (c_S_areSpots (fun hw => ?_) (fun hw => ?_)) <;> try dsimp only [psh])
      | (with_reducible refine T_if_eqN (tgt := 18) (pc1 := 8) (pc := 5) k_S_ever_5 (by decide) (by decide) (by omega) (fun hc => ?_) (fun hc => ?_) <;> first | (exfalso; omega) | skip)
      | refine T_if_eq_t (tgt := 18) (pc := 5) k_S_ever_5 rfl (by decide) ?_
      | refine T_if_eq_f (tgt := 18) (pc1 := 8) (pc := 5) k_S_ever_5 rfl rfl (by decide) ?_
      | refine T_if_eq (tgt := 18) (pc1 := 8) (pc := 5) k_S_ever_5 rfl rfl (fun hc => ?_) (fun hc => ?_)
      | refine T_iconst (v := (nI 1)) (pc1 := 10) (pc := 9) k_S_ever_9 rfl (by decide) ?_
      | refine T_bipush (v := (nI 40)) (pc1 := 12) (pc := 10) k_S_ever_10 rfl (by decide) ?_
      | (refine T_cS (As := [_, _, _]) (d1 := 1) (pc1 := 15) (pc := 12) k_S_ever_12 rfl (by decide) (Nat.le_of_ble_eq_true rfl) rfl o_S_isWithin l_S_77 rfl (c_S_isWithin (fun hw => ?_) (fun hw => ?_)) <;> try dsimp only [psh])
      | (with_reducible refine T_if_neN (tgt := 21) (pc1 := 18) (pc := 15) k_S_ever_15 (by decide) (by decide) (by omega) (fun hc => ?_) (fun hc => ?_) <;> first | (exfalso; omega) | skip)
      | refine T_if_ne_t (tgt := 21) (pc := 15) k_S_ever_15 rfl (by decide) ?_
      | refine T_if_ne_f (tgt := 21) (pc1 := 18) (pc := 15) k_S_ever_15 rfl rfl (by decide) ?_
      | refine T_if_ne (tgt := 21) (pc1 := 18) (pc := 15) k_S_ever_15 rfl rfl (fun hc => ?_) (fun hc => ?_)
      | refine T_retI (pc := 20) k_S_ever_20 rfl (by first | rfl | decide | assumption) ?_
      | refine T_getR (pc1 := 25) (pc := 22) k_S_ever_22 rfl f_S_23 rfl (by first | assumption | exact ga G (by decide) rfl | exact lgA LG (by omega)) (by first | assumption | exact gr G (by decide) rfl | exact lgR LG (by omega)) ?_
      | refine T_aload_n (pc1 := 26) (pc := 25) k_S_ever_25 rfl rfl ?_
      | refine T_aload_nN (pc1 := 26) (pc := 25) k_S_ever_25 rfl rfl ?_
      | refine T_getR (pc1 := 29) (pc := 26) k_S_ever_26 rfl f_S_10 rfl (by first | assumption | exact ga G (by decide) rfl | exact lgA LG (by omega)) (by first | assumption | exact gr G (by decide) rfl | exact lgR LG (by omega)) ?_
      | (refine T_cV (As := [_]) (d1 := 2) (pc1 := 32) (pc := 29) k_S_ever_29 rfl (by decide) (Nat.le_of_ble_eq_true rfl) rfl o_La_takeFrom l_S_197 rfl (by first | assumption | exact ga G (by decide) rfl | exact lgA LG (by omega)) rfl (c_think G LG (by decide) ok okw hL (fun g' J2 G hg hJ2 hJ2L => ?_)) <;> try dsimp only [psh])
      | refine T_iconst (v := (nI 0)) (pc1 := 33) (pc := 32) k_S_ever_32 rfl (by decide) ?_
      | refine T_istore (pc1 := 35) (pc := 33) k_S_ever_33 rfl (Nat.le_of_ble_eq_true rfl) ?_
      | refine T_iconst (v := (nI 0)) (pc1 := 36) (pc := 35) k_S_ever_35 rfl (by decide) ?_
      | refine T_istore (pc1 := 38) (pc := 36) k_S_ever_36 rfl (Nat.le_of_ble_eq_true rfl) ?_)
    all_goals first | exact loop x 0 g' J2 (by omega) G hg (fr_mono hJ2 (fun i hi => Or.inl hi)) hJ2L | (exfalso; exact hw hok.1) | (exfalso; apply hw; constructor <;> omega)
  · rw [everA, if_neg hok] at kk
    have kk := kk g I _ G GS_rf fr_rf rfl
    repeat' (first
      | (refine T_iload_n (pc1 := 1) (pc := 0) k_S_ever_0 rfl rfl ?_ <;> try (refine T_iload_n (pc1 := 2) (pc := 1) k_S_ever_1 rfl rfl ?_ <;> try ((refine T_cS (As := [_, _]) (d1 := 3) (pc1 := 5) (pc := 2) k_S_ever_2 rfl (by decide) (Nat.le_of_ble_eq_true rfl) rfl o_S_areSpots l_S_73 rfl (c_S_areSpots (fun hw => ?_) (fun hw => ?_)) <;> try dsimp only [psh]) <;> try ((first | (with_reducible refine T_if_eqN (tgt := 18) (pc1 := 8) (pc := 5) k_S_ever_5 (by decide) (by decide) (by omega) (fun hc => ?_) (fun hc => ?_) <;> first | (exfalso; omega) | skip) | refine T_if_eq_t (tgt := 18) (pc := 5) k_S_ever_5 rfl (by decide) ?_ | refine T_if_eq_f (tgt := 18) (pc1 := 8) (pc := 5) k_S_ever_5 rfl rfl (by decide) ?_ | refine T_if_eq (tgt := 18) (pc1 := 8) (pc := 5) k_S_ever_5 rfl rfl (fun hc => ?_) (fun hc => ?_))))))
      | (refine T_iload_n (pc1 := 9) (pc := 8) k_S_ever_8 rfl rfl ?_ <;> try (refine T_iconst (v := (nI 1)) (pc1 := 10) (pc := 9) k_S_ever_9 rfl (by decide) ?_ <;> try (refine T_bipush (v := (nI 40)) (pc1 := 12) (pc := 10) k_S_ever_10 rfl (by decide) ?_ <;> try ((refine T_cS (As := [_, _, _]) (d1 := 1) (pc1 := 15) (pc := 12) k_S_ever_12 rfl (by decide) (Nat.le_of_ble_eq_true rfl) rfl o_S_isWithin l_S_77 rfl (c_S_isWithin (fun hw => ?_) (fun hw => ?_)) <;> try dsimp only [psh]) <;> try ((first | (with_reducible refine T_if_neN (tgt := 21) (pc1 := 18) (pc := 15) k_S_ever_15 (by decide) (by decide) (by omega) (fun hc => ?_) (fun hc => ?_) <;> first | (exfalso; omega) | skip) | refine T_if_ne_t (tgt := 21) (pc := 15) k_S_ever_15 rfl (by decide) ?_ | refine T_if_ne_f (tgt := 21) (pc1 := 18) (pc := 15) k_S_ever_15 rfl rfl (by decide) ?_ | refine T_if_ne (tgt := 21) (pc1 := 18) (pc := 15) k_S_ever_15 rfl rfl (fun hc => ?_) (fun hc => ?_)))))))
      | (refine T_ldc (v := (-1000000001)) (pc1 := 20) (pc := 18) k_S_ever_18 rfl c_S_81 ?_ <;> try (refine T_retI (pc := 20) k_S_ever_20 rfl (by first | rfl | decide | assumption) ?_))
      | refine T_iload_n (pc1 := 2) (pc := 1) k_S_ever_1 rfl rfl ?_
      | (refine T_cS (As := [_, _]) (d1 := 3) (pc1 := 5) (pc := 2) k_S_ever_2 rfl (by decide) (Nat.le_of_ble_eq_true rfl) rfl o_S_areSpots l_S_73 rfl (c_S_areSpots (fun hw => ?_) (fun hw => ?_)) <;> try dsimp only [psh])
      | (with_reducible refine T_if_eqN (tgt := 18) (pc1 := 8) (pc := 5) k_S_ever_5 (by decide) (by decide) (by omega) (fun hc => ?_) (fun hc => ?_) <;> first | (exfalso; omega) | skip)
      | refine T_if_eq_t (tgt := 18) (pc := 5) k_S_ever_5 rfl (by decide) ?_
      | refine T_if_eq_f (tgt := 18) (pc1 := 8) (pc := 5) k_S_ever_5 rfl rfl (by decide) ?_
      | refine T_if_eq (tgt := 18) (pc1 := 8) (pc := 5) k_S_ever_5 rfl rfl (fun hc => ?_) (fun hc => ?_)
      | refine T_iconst (v := (nI 1)) (pc1 := 10) (pc := 9) k_S_ever_9 rfl (by decide) ?_
      | refine T_bipush (v := (nI 40)) (pc1 := 12) (pc := 10) k_S_ever_10 rfl (by decide) ?_
      | (refine T_cS (As := [_, _, _]) (d1 := 1) (pc1 := 15) (pc := 12) k_S_ever_12 rfl (by decide) (Nat.le_of_ble_eq_true rfl) rfl o_S_isWithin l_S_77 rfl (c_S_isWithin (fun hw => ?_) (fun hw => ?_)) <;> try dsimp only [psh])
      | (with_reducible refine T_if_neN (tgt := 21) (pc1 := 18) (pc := 15) k_S_ever_15 (by decide) (by decide) (by omega) (fun hc => ?_) (fun hc => ?_) <;> first | (exfalso; omega) | skip)
      | refine T_if_ne_t (tgt := 21) (pc := 15) k_S_ever_15 rfl (by decide) ?_
      | refine T_if_ne_f (tgt := 21) (pc1 := 18) (pc := 15) k_S_ever_15 rfl rfl (by decide) ?_
      | refine T_if_ne (tgt := 21) (pc1 := 18) (pc := 15) k_S_ever_15 rfl rfl (fun hc => ?_) (fun hc => ?_)
      | refine T_retI (pc := 20) k_S_ever_20 rfl (by first | rfl | decide | assumption) ?_)
    all_goals first | exact kk | (exfalso; exact hok ⟨by assumption, by constructor <;> omega⟩)
theorem c_S_fine {N : Row} {n tn : Nat} (G : GeoOK g) (ok : okL N n tn) (hL : LaR g I 1 N n tn) (kk : ∀ J, fre stk I J → K (some (.int (fineA N tn))) g J) : Cl 4 M_S_fine [.ref 0] g I K := by
  show Rl 4 M_S_fine 0 [some (.ref 0), none] [] g I K
  have LG := land_1 G
  have LT := hL.1
  obtain ⟨s1, s2, s3⟩ := id hL.2.2.2
  unfold fineA at kk
  repeat' (first
    | ((first | refine T_aload_n (pc1 := 1) (pc := 0) k_S_fine_0 rfl rfl ?_ | refine T_aload_nN (pc1 := 1) (pc := 0) k_S_fine_0 rfl rfl ?_) <;> try (refine T_getR (pc1 := 4) (pc := 1) k_S_fine_1 rfl f_S_10 rfl (by first | assumption | exact ga G (by decide) rfl | exact lgA LG (by omega)) (by first | assumption | exact gr G (by decide) rfl | exact lgR LG (by omega)) ?_ <;> try (refine T_iconst (v := (nI 2)) (pc1 := 5) (pc := 4) k_S_fine_4 rfl (by decide) ?_ <;> try ((refine T_cV (As := [_]) (d1 := 3) (pc1 := 8) (pc := 5) k_S_fine_5 rfl (by decide) (Nat.le_of_ble_eq_true rfl) rfl o_La_textFor l_S_238 rfl (by first | assumption | exact ga G (by decide) rfl | exact lgA LG (by omega)) rfl (c_La_textFor LG ok LT (by decide) (fun htx => ?_) (fun t q htx hx => ?_)) <;> try dsimp only [psh])))))
    | refine T_getR (pc1 := 4) (pc := 1) k_S_fine_1 rfl f_S_10 rfl (by first | assumption | exact ga G (by decide) rfl | exact lgA LG (by omega)) (by first | assumption | exact gr G (by decide) rfl | exact lgR LG (by omega)) ?_
    | refine T_iconst (v := (nI 2)) (pc1 := 5) (pc := 4) k_S_fine_4 rfl (by decide) ?_
    | (refine T_cV (As := [_]) (d1 := 3) (pc1 := 8) (pc := 5) k_S_fine_5 rfl (by decide) (Nat.le_of_ble_eq_true rfl) rfl o_La_textFor l_S_238 rfl (by first | assumption | exact ga G (by decide) rfl | exact lgA LG (by omega)) rfl (c_La_textFor LG ok LT (by decide) (fun htx => ?_) (fun t q htx hx => ?_)) <;> try dsimp only [psh]))
  · rw [htx] at kk
    have kk := kk I fr_rf
    repeat' (first
      | ((first | refine T_astore_n (pc1 := 9) (pc := 8) k_S_fine_8 rfl (Nat.le_of_ble_eq_true rfl) ?_ | refine T_astore_nN (pc1 := 9) (pc := 8) k_S_fine_8 rfl (Nat.le_of_ble_eq_true rfl) ?_) <;> try ((first | refine T_aload_n (pc1 := 10) (pc := 9) k_S_fine_9 rfl rfl ?_ | refine T_aload_nN (pc1 := 10) (pc := 9) k_S_fine_9 rfl rfl ?_) <;> try ((first | refine T_ifnonnull (tgt := 23) (pc := 10) k_S_fine_10 rfl ?_ | refine T_ifnonnullN (pc1 := 13) (pc := 10) k_S_fine_10 rfl ?_))))
      | ((first | refine T_aload_n (pc1 := 14) (pc := 13) k_S_fine_13 rfl rfl ?_ | refine T_aload_nN (pc1 := 14) (pc := 13) k_S_fine_13 rfl rfl ?_) <;> try (refine T_getR (pc1 := 17) (pc := 14) k_S_fine_14 rfl f_S_10 rfl (by first | assumption | exact ga G (by decide) rfl | exact lgA LG (by omega)) (by first | assumption | exact gr G (by decide) rfl | exact lgR LG (by omega)) ?_ <;> try (refine T_getV (pc1 := 20) (pc := 17) k_S_fine_17 rfl f_S_242 rfl (by first | assumption | exact ga G (by decide) rfl | exact lgA LG (by omega)) (by first | assumption | (simp (disch := omega) only [pI_eq, pI_row, pI_col, va_up_self, va_up_ne, ne_eq, not_false_eq_true] <;> rfl) | rfl) ?_ <;> try (refine T_goto (tgt := 42) (pc := 20) k_S_fine_20 rfl ?_))))
      | (refine T_retI (pc := 42) k_S_fine_42 rfl (by first | rfl | decide | assumption) ?_)
      | refine T_aload_n (pc1 := 10) (pc := 9) k_S_fine_9 rfl rfl ?_
      | refine T_aload_nN (pc1 := 10) (pc := 9) k_S_fine_9 rfl rfl ?_
      | refine T_ifnonnull (tgt := 23) (pc := 10) k_S_fine_10 rfl ?_
      | refine T_ifnonnullN (pc1 := 13) (pc := 10) k_S_fine_10 rfl ?_
      | refine T_getR (pc1 := 17) (pc := 14) k_S_fine_14 rfl f_S_10 rfl (by first | assumption | exact ga G (by decide) rfl | exact lgA LG (by omega)) (by first | assumption | exact gr G (by decide) rfl | exact lgR LG (by omega)) ?_
      | refine T_getV (pc1 := 20) (pc := 17) k_S_fine_17 rfl f_S_242 rfl (by first | assumption | exact ga G (by decide) rfl | exact lgA LG (by omega)) (by first | assumption | (simp (disch := omega) only [pI_eq, pI_row, pI_col, va_up_self, va_up_ne, ne_eq, not_false_eq_true] <;> rfl) | rfl) ?_
      | refine T_goto (tgt := 42) (pc := 20) k_S_fine_20 rfl ?_)
    exact kk
  · rw [htx] at kk
    dsimp only at kk
    repeat' (first
      | ((first | refine T_astore_n (pc1 := 9) (pc := 8) k_S_fine_8 rfl (Nat.le_of_ble_eq_true rfl) ?_ | refine T_astore_nN (pc1 := 9) (pc := 8) k_S_fine_8 rfl (Nat.le_of_ble_eq_true rfl) ?_) <;> try ((first | refine T_aload_n (pc1 := 10) (pc := 9) k_S_fine_9 rfl rfl ?_ | refine T_aload_nN (pc1 := 10) (pc := 9) k_S_fine_9 rfl rfl ?_) <;> try ((first | refine T_ifnonnull (tgt := 23) (pc := 10) k_S_fine_10 rfl ?_ | refine T_ifnonnullN (pc1 := 13) (pc := 10) k_S_fine_10 rfl ?_))))
      | ((first | refine T_aload_n (pc1 := 14) (pc := 13) k_S_fine_13 rfl rfl ?_ | refine T_aload_nN (pc1 := 14) (pc := 13) k_S_fine_13 rfl rfl ?_) <;> try (refine T_getR (pc1 := 17) (pc := 14) k_S_fine_14 rfl f_S_10 rfl (by first | assumption | exact ga G (by decide) rfl | exact lgA LG (by omega)) (by first | assumption | exact gr G (by decide) rfl | exact lgR LG (by omega)) ?_ <;> try (refine T_getV (pc1 := 20) (pc := 17) k_S_fine_17 rfl f_S_242 rfl (by first | assumption | exact ga G (by decide) rfl | exact lgA LG (by omega)) (by first | assumption | (simp (disch := omega) only [pI_eq, pI_row, pI_col, va_up_self, va_up_ne, ne_eq, not_false_eq_true] <;> rfl) | rfl) ?_ <;> try (refine T_goto (tgt := 42) (pc := 20) k_S_fine_20 rfl ?_))))
      | ((first | refine T_aload_n (pc1 := 24) (pc := 23) k_S_fine_23 rfl rfl ?_ | refine T_aload_nN (pc1 := 24) (pc := 23) k_S_fine_23 rfl rfl ?_) <;> try ((first | refine T_aload_n (pc1 := 25) (pc := 24) k_S_fine_24 rfl rfl ?_ | refine T_aload_nN (pc1 := 25) (pc := 24) k_S_fine_24 rfl rfl ?_) <;> try (refine T_getR (pc1 := 28) (pc := 25) k_S_fine_25 rfl f_S_10 rfl (by first | assumption | exact ga G (by decide) rfl | exact lgA LG (by omega)) (by first | assumption | exact gr G (by decide) rfl | exact lgR LG (by omega)) ?_ <;> try (refine T_getV (pc1 := 31) (pc := 28) k_S_fine_28 rfl f_S_242 rfl (by first | assumption | exact ga G (by decide) rfl | exact lgA LG (by omega)) (by first | assumption | (simp (disch := omega) only [pI_eq, pI_row, pI_col, va_up_self, va_up_ne, ne_eq, not_false_eq_true] <;> rfl) | rfl) ?_ <;> try ((first | refine T_aload_n (pc1 := 32) (pc := 31) k_S_fine_31 rfl rfl ?_ | refine T_aload_nN (pc1 := 32) (pc := 31) k_S_fine_31 rfl rfl ?_) <;> try (refine T_getR (pc1 := 35) (pc := 32) k_S_fine_32 rfl f_S_10 rfl (by first | assumption | exact ga G (by decide) rfl | exact lgA LG (by omega)) (by first | assumption | exact gr G (by decide) rfl | exact lgR LG (by omega)) ?_ <;> try (refine T_getV (pc1 := 38) (pc := 35) k_S_fine_35 rfl f_S_245 rfl (by first | assumption | exact ga G (by decide) rfl | exact lgA LG (by omega)) (by first | assumption | (simp (disch := omega) only [pI_eq, pI_row, pI_col, va_up_self, va_up_ne, ne_eq, not_false_eq_true] <;> rfl) | rfl) ?_ <;> try (refine T_iconst (v := (nI 0)) (pc1 := 39) (pc := 38) k_S_fine_38 rfl (by decide) ?_ <;> try ((refine T_cV (As := [_, _, _]) (ci := 6) (n := 4) (d1 := 2) (pc1 := 42) (pc := 39) k_S_fine_39 rfl (by decide) (Nat.le_of_ble_eq_true rfl) rfl o_Te_value l_S_248 rfl hx.2.2.1 rfl (c_Te_evl ok htx (by decide) hx (fun J hJ => ?_)) <;> try dsimp only [psh]))))))))))
      | (refine T_retI (pc := 42) k_S_fine_42 rfl (by first | rfl | decide | assumption) ?_)
      | refine T_aload_n (pc1 := 10) (pc := 9) k_S_fine_9 rfl rfl ?_
      | refine T_aload_nN (pc1 := 10) (pc := 9) k_S_fine_9 rfl rfl ?_
      | refine T_ifnonnull (tgt := 23) (pc := 10) k_S_fine_10 rfl ?_
      | refine T_ifnonnullN (pc1 := 13) (pc := 10) k_S_fine_10 rfl ?_
      | refine T_getR (pc1 := 17) (pc := 14) k_S_fine_14 rfl f_S_10 rfl (by first | assumption | exact ga G (by decide) rfl | exact lgA LG (by omega)) (by first | assumption | exact gr G (by decide) rfl | exact lgR LG (by omega)) ?_
      | refine T_getV (pc1 := 20) (pc := 17) k_S_fine_17 rfl f_S_242 rfl (by first | assumption | exact ga G (by decide) rfl | exact lgA LG (by omega)) (by first | assumption | (simp (disch := omega) only [pI_eq, pI_row, pI_col, va_up_self, va_up_ne, ne_eq, not_false_eq_true] <;> rfl) | rfl) ?_
      | refine T_goto (tgt := 42) (pc := 20) k_S_fine_20 rfl ?_
      | refine T_aload_n (pc1 := 25) (pc := 24) k_S_fine_24 rfl rfl ?_
      | refine T_aload_nN (pc1 := 25) (pc := 24) k_S_fine_24 rfl rfl ?_
      | refine T_getR (pc1 := 28) (pc := 25) k_S_fine_25 rfl f_S_10 rfl (by first | assumption | exact ga G (by decide) rfl | exact lgA LG (by omega)) (by first | assumption | exact gr G (by decide) rfl | exact lgR LG (by omega)) ?_
      | refine T_getV (pc1 := 31) (pc := 28) k_S_fine_28 rfl f_S_242 rfl (by first | assumption | exact ga G (by decide) rfl | exact lgA LG (by omega)) (by first | assumption | (simp (disch := omega) only [pI_eq, pI_row, pI_col, va_up_self, va_up_ne, ne_eq, not_false_eq_true] <;> rfl) | rfl) ?_
      | refine T_aload_n (pc1 := 32) (pc := 31) k_S_fine_31 rfl rfl ?_
      | refine T_aload_nN (pc1 := 32) (pc := 31) k_S_fine_31 rfl rfl ?_
      | refine T_getR (pc1 := 35) (pc := 32) k_S_fine_32 rfl f_S_10 rfl (by first | assumption | exact ga G (by decide) rfl | exact lgA LG (by omega)) (by first | assumption | exact gr G (by decide) rfl | exact lgR LG (by omega)) ?_
      | refine T_getV (pc1 := 38) (pc := 35) k_S_fine_35 rfl f_S_245 rfl (by first | assumption | exact ga G (by decide) rfl | exact lgA LG (by omega)) (by first | assumption | (simp (disch := omega) only [pI_eq, pI_row, pI_col, va_up_self, va_up_ne, ne_eq, not_false_eq_true] <;> rfl) | rfl) ?_
      | refine T_iconst (v := (nI 0)) (pc1 := 39) (pc := 38) k_S_fine_38 rfl (by decide) ?_
      | (refine T_cV (As := [_, _, _]) (ci := 6) (n := 4) (d1 := 2) (pc1 := 42) (pc := 39) k_S_fine_39 rfl (by decide) (Nat.le_of_ble_eq_true rfl) rfl o_Te_value l_S_248 rfl hx.2.2.1 rfl (c_Te_evl ok htx (by decide) hx (fun J hJ => ?_)) <;> try dsimp only [psh]))
    exact kk J hJ
end S3
