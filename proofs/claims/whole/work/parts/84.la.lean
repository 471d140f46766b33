/-! The law: walk, sheet, lay. -/
section PLa
theorem wf_tf {i : Nat} (h : wf1 1 i) : lnd 1 i ∨ tf i := h.elim Or.inl (fun q => Or.inr (Or.inl (Or.inr q)))
theorem rg_cl {n : Nat} {v : Int32} (h : rg n v) (hn : n < 2147483648) : v.toNatClampNeg < n := by
  obtain ⟨j, hj, rfl⟩ := rg_of h hn
  rw [nI_clamp (by omega)]
  exact hj
theorem walkN_hi {N : Row} {n tn k : Nat} {f t : Int32} (ok : okL N n tn) (hk : 1556 ≤ k) : walkN N n tn f t k = N k := by
  unfold walkN
  split
  · rename_i h
    unfold wkN
    rw [wkE_ne (Or.inr (Or.inr (by omega)))]
    exact (wkW_ok ok (rg_cl h.1 (by decide)) (rg_cl h.2 (by decide))).2.1 k (by omega)
  · rfl
theorem okS_sheet {So Si : Row} {s so n : Int32} (h : okS So Si) : okS (shSo So s so n) (shSi Si s so n) := by
  unfold shSo shSi
  by_cases hk : okSheet s so n
  · rw [if_pos hk, if_pos hk]
    obtain ⟨h1, h2, h3⟩ := hk
    obtain ⟨j, hj, rfl⟩ := rg_of h1 (by omega)
    rw [nI_clamp (by omega)]
    intro s hs
    by_cases e : s = j
    · subst e
      rw [va_up_self, va_up_self]
      unfold sheetV
      by_cases h4 : so.toInt < 0
      · left
        rw [if_pos h4]
        refine ⟨Int32.toInt_inj.mp ?_, rfl⟩
        rw [show (-1 : Int32).toInt = -1 from by decide]
        have := h2.1
        omega
      · right
        rw [if_neg h4]
        obtain ⟨z, _, hz, rfl⟩ := bt_of (lo := 0) (hi := 24) (h3.resolve_left h4) (by omega)
        obtain ⟨y, _, hy, rfl⟩ := bt_of (lo := 0) (hi := 1) (v := so) ⟨by omega, h2.2⟩ (by omega)
        refine ⟨?_, z, hz, rfl⟩
        have hy2 : y = 0 ∨ y = 1 := by omega
        obtain rfl | rfl := hy2
        · exact Or.inl rfl
        · exact Or.inr rfl
    · rw [va_up_ne _ _ e, va_up_ne _ _ e]
      exact h s hs
  · rw [if_neg hk, if_neg hk]
    exact h
theorem MI_sheet {I J : IM} {N M So Si Pl Th He Wt T : Row} {w z : Nat} {kept : Bool} {s so n : Int32} (h : MI I N M So Si Pl Th He Wt T w z kept) (hf : eqx [114, 115, 116] I J) (q1 : okSheet s so n → J 114 = va_up So s.toNatClampNeg so ∧ J 115 = va_up Si s.toNatClampNeg (sheetV so n) ∧ J 116 = zer Pl (24 * s.toNatClampNeg) 24) (q2 : ¬ okSheet s so n → J = I) : MI J N M (shSo So s so n) (shSi Si s so n) (shPl Pl s so n) Th He Wt T w z kept := by
  unfold shSo shSi shPl
  by_cases hk : okSheet s so n
  · rw [if_pos hk, if_pos hk, if_pos hk]
    obtain ⟨y1, y2, y3⟩ := q1 hk
    obtain ⟨x1, x2, x3, x4, x5, x6, x7⟩ := h
    unfold MI
    rw [hf 101 (by decide), hf 102 (by decide), hf 103 (by decide), hf 108 (by decide), hf 118 (by decide), hf 119 (by decide), hf 120 (by decide)]
    exact ⟨x1, x2, x3, y1, y2, y3, x7⟩
  · rw [if_neg hk, if_neg hk, if_neg hk, q2 hk]
    exact h
/-- the slots move: the rest of the class stays -/
theorem CI_sl {g : Geo} {I J : IM} {N M So Si Pl Th He Th' He' Wt T : Row} {n tn n2 tn2 w z : Nat} {kept : Bool} (h : CI g I N M So Si Pl Th He Wt T n tn n2 tn2 w z kept) (hn : n ≤ 14) (h14 : kept = true → n2 ≤ 14) (hf : fre slf I J) (hS : CH J Th' He') : CI g J N M So Si Pl Th' He' Wt T n tn n2 tn2 w z kept := by
  obtain ⟨c1, c2, c3, c4, c5, c6, c7⟩ := h
  refine ⟨LR_fr (r := 43) c1 hn GS_rf (by omega) (by omega) hf (fun i hi => by unfold lnd at hi; unfold slf; omega) (fun i hi => Or.inl (by unfold slf at hi; omega)), ?_, fun k => LR_fr (r := 43) (c3 k) (h14 k) GS_rf (by omega) (by omega) hf (fun i hi => by unfold lnd at hi; unfold slf; omega) (fun i hi => Or.inl (by unfold slf at hi; omega)), CS_fr c4 hf (fun i hi => by unfold shf at hi; unfold slf; omega), hS, ?_, ?_⟩
  · rw [hf 0 (by unfold slf; omega)]; exact c2
  · unfold CW at *
    rw [hf 0 (by unfold slf; omega), hf 72 (by unfold slf; omega)]
    exact c6
  · unfold CT at *
    rw [hf 67 (by unfold slf; omega), hf 68 (by unfold slf; omega)]
    exact c7
end PLa
section La
variable {g G : Geo} {I : IM} {K : Option Value → Geo → IM → Prop} {c i : Nat}
theorem cs_walk (hI : Inv c G g I) (hi : i + 6 ≤ G.1.2.1) (hl : G.1.2.1 ≤ 384) (kk : ∀ g' J, Inv (c + 1) G g' J → Rl 153 M_L_law 1495 (LL i) [] g' J K) : Rl 153 M_L_law 486 (LL i) [] g I K := by
  obtain ⟨N, M, So, Si, Pl, Th, He, Wt, T, n, tn, n2, tn2, w, z, kept, hH, hC, hM, hO⟩ := hI
  have G0 := hH.1
  have hg := hH.2.1
  obtain ⟨ok, okw, okk, oks, okh, okt, hw60, h1556⟩ := id hO
  have n14 : n ≤ 14 := ok.2.1
  have m14 : kept = true → n2 ≤ 14 := fun k => (okk k).1.2.1
  have a0 : isAg g 0 9 11 := ga G0 (by decide) rfl
  have a1 : isAg g 101 10 31 := ga G0 (by decide) rfl
  obtain ⟨c1, c2, c3, c4, c5, c6, c7⟩ := id hC
  unfold LL
  repeat' (first
    | ((first | refine T_aload_n (pc1 := 487) (pc := 486) k_L_law_486 rfl rfl ?_ | refine T_aload_nN (pc1 := 487) (pc := 486) k_L_law_486 rfl rfl ?_) <;> try ((first | refine T_aload_n (pc1 := 488) (pc := 487) k_L_law_487 rfl rfl ?_ | refine T_aload_nN (pc1 := 488) (pc := 487) k_L_law_487 rfl rfl ?_) <;> try (refine T_iload_n (pc1 := 489) (pc := 488) k_L_law_488 rfl rfl ?_ <;> try (refine T_iconst (v := (nI 1)) (pc1 := 490) (pc := 489) k_L_law_489 rfl (by decide) ?_ <;> try ((first | with_reducible refine T_iaddN (pc1 := 491) (pc := 490) k_L_law_490 (by decide) ?_ | refine T_iadd (pc1 := 491) (pc := 490) k_L_law_490 rfl ?_) <;> try (refine T_scN (pc1 := 492) (pc := 491) k_L_law_491 rfl (by assumption) (by omega) (by omega) ?_ <;> try ((first | refine T_aload_n (pc1 := 493) (pc := 492) k_L_law_492 rfl rfl ?_ | refine T_aload_nN (pc1 := 493) (pc := 492) k_L_law_492 rfl rfl ?_) <;> try (refine T_iload_n (pc1 := 494) (pc := 493) k_L_law_493 rfl rfl ?_ <;> try (refine T_iconst (v := (nI 2)) (pc1 := 495) (pc := 494) k_L_law_494 rfl (by decide) ?_ <;> try ((first | with_reducible refine T_iaddN (pc1 := 496) (pc := 495) k_L_law_495 (by decide) ?_ | refine T_iadd (pc1 := 496) (pc := 495) k_L_law_495 rfl ?_) <;> try (refine T_scN (pc1 := 497) (pc := 496) k_L_law_496 rfl (by assumption) (by omega) (by omega) ?_)))))))))))
    | refine T_aload_n (pc1 := 488) (pc := 487) k_L_law_487 rfl rfl ?_
    | refine T_aload_nN (pc1 := 488) (pc := 487) k_L_law_487 rfl rfl ?_
    | refine T_iload_n (pc1 := 489) (pc := 488) k_L_law_488 rfl rfl ?_
    | refine T_iconst (v := (nI 1)) (pc1 := 490) (pc := 489) k_L_law_489 rfl (by decide) ?_
    | with_reducible refine T_iaddN (pc1 := 491) (pc := 490) k_L_law_490 (by decide) ?_
    | refine T_iadd (pc1 := 491) (pc := 490) k_L_law_490 rfl ?_
    | refine T_scN (pc1 := 492) (pc := 491) k_L_law_491 rfl (by assumption) (by omega) (by omega) ?_
    | refine T_aload_n (pc1 := 493) (pc := 492) k_L_law_492 rfl rfl ?_
    | refine T_aload_nN (pc1 := 493) (pc := 492) k_L_law_492 rfl rfl ?_
    | refine T_iload_n (pc1 := 494) (pc := 493) k_L_law_493 rfl rfl ?_
    | refine T_iconst (v := (nI 2)) (pc1 := 495) (pc := 494) k_L_law_494 rfl (by decide) ?_
    | with_reducible refine T_iaddN (pc1 := 496) (pc := 495) k_L_law_495 (by decide) ?_
    | refine T_iadd (pc1 := 496) (pc := 495) k_L_law_495 rfl ?_
    | refine T_scN (pc1 := 497) (pc := 496) k_L_law_496 rfl (by assumption) (by omega) (by omega) ?_)
  (refine T_cV (As := [_, _]) (d1 := 7) (pc1 := 500) (pc := 497) k_L_law_497 rfl (by decide) (Nat.le_of_ble_eq_true rfl) rfl o_S_walk l_L_49 rfl (by assumption) rfl (c_S_walk G0 ok okw c1 fun J1 r1 f1 ok1 okw1 L1 e1 => ?_) <;> try dsimp only [psh])
  have C1 := CI_fr (r := 43) hC m14 GS_rf (by omega) (by omega) f1 (fun i hi => wf_tf hi) L1
  have M1 := MI_fr hM f1 (fun i h1 h2 h3 => tf_mod h1 h2 (wf_tf h3))
  obtain ⟨x102, x103, xk, xSo, xSi, xPl, xTh, xHe, xWt, xw, xT, xz⟩ := id M1
  repeat' (first
    | ((first | refine T_aload_n (pc1 := 501) (pc := 500) k_L_law_500 rfl rfl ?_ | refine T_aload_nN (pc1 := 501) (pc := 500) k_L_law_500 rfl rfl ?_) <;> try ((first | refine T_aload_n (pc1 := 502) (pc := 501) k_L_law_501 rfl rfl ?_ | refine T_aload_nN (pc1 := 502) (pc := 501) k_L_law_501 rfl rfl ?_) <;> try (refine T_iload_n (pc1 := 503) (pc := 502) k_L_law_502 rfl rfl ?_ <;> try (refine T_iconst (v := (nI 1)) (pc1 := 504) (pc := 503) k_L_law_503 rfl (by decide) ?_ <;> try ((first | with_reducible refine T_iaddN (pc1 := 505) (pc := 504) k_L_law_504 (by decide) ?_ | refine T_iadd (pc1 := 505) (pc := 504) k_L_law_504 rfl ?_) <;> try (refine T_scN (pc1 := 506) (pc := 505) k_L_law_505 rfl (by assumption) (by omega) (by omega) ?_ <;> try ((first | refine T_aload_n (pc1 := 507) (pc := 506) k_L_law_506 rfl rfl ?_ | refine T_aload_nN (pc1 := 507) (pc := 506) k_L_law_506 rfl rfl ?_) <;> try (refine T_iload_n (pc1 := 508) (pc := 507) k_L_law_507 rfl rfl ?_ <;> try (refine T_iconst (v := (nI 2)) (pc1 := 509) (pc := 508) k_L_law_508 rfl (by decide) ?_ <;> try ((first | with_reducible refine T_iaddN (pc1 := 510) (pc := 509) k_L_law_509 (by decide) ?_ | refine T_iadd (pc1 := 510) (pc := 509) k_L_law_509 rfl ?_) <;> try (refine T_scN (pc1 := 511) (pc := 510) k_L_law_510 rfl (by assumption) (by omega) (by omega) ?_)))))))))))
    | refine T_aload_n (pc1 := 502) (pc := 501) k_L_law_501 rfl rfl ?_
    | refine T_aload_nN (pc1 := 502) (pc := 501) k_L_law_501 rfl rfl ?_
    | refine T_iload_n (pc1 := 503) (pc := 502) k_L_law_502 rfl rfl ?_
    | refine T_iconst (v := (nI 1)) (pc1 := 504) (pc := 503) k_L_law_503 rfl (by decide) ?_
    | with_reducible refine T_iaddN (pc1 := 505) (pc := 504) k_L_law_504 (by decide) ?_
    | refine T_iadd (pc1 := 505) (pc := 504) k_L_law_504 rfl ?_
    | refine T_scN (pc1 := 506) (pc := 505) k_L_law_505 rfl (by assumption) (by omega) (by omega) ?_
    | refine T_aload_n (pc1 := 507) (pc := 506) k_L_law_506 rfl rfl ?_
    | refine T_aload_nN (pc1 := 507) (pc := 506) k_L_law_506 rfl rfl ?_
    | refine T_iload_n (pc1 := 508) (pc := 507) k_L_law_507 rfl rfl ?_
    | refine T_iconst (v := (nI 2)) (pc1 := 509) (pc := 508) k_L_law_508 rfl (by decide) ?_
    | with_reducible refine T_iaddN (pc1 := 510) (pc := 509) k_L_law_509 (by decide) ?_
    | refine T_iadd (pc1 := 510) (pc := 509) k_L_law_509 rfl ?_
    | refine T_scN (pc1 := 511) (pc := 510) k_L_law_510 rfl (by assumption) (by omega) (by omega) ?_)
  (refine T_cV (As := [_, _]) (d1 := 6) (pc1 := 514) (pc := 511) k_L_law_511 rfl (by decide) (Nat.le_of_ble_eq_true rfl) rfl o_M_walk l_L_52 rfl (by assumption) rfl (c_M_walk G0 x102 ok fun J2 r2 f2 q2 e2 => ?_) <;> try dsimp only [psh])
  refine T_icmp_eq_t k_L_law_514 rfl (e1.trans e2.symm) ?_
  exact kk g J2 ⟨_, M, So, Si, Pl, Th, He, Wt, T, n, tn, n2, tn2, w, z, kept, HI_s hH, CI_mo C1 n14 m14 (eqx_fre f2 (by decide)), MI_N M1 f2 (by decide) q2, ⟨ok1, okw1, okk, oks, okh, okt, hw60, fun k hk => (walkN_hi ok hk).trans (h1556 k hk)⟩⟩
theorem cs_sheet (hI : Inv c G g I) (hi : i + 6 ≤ G.1.2.1) (hl : G.1.2.1 ≤ 384) (kk : ∀ g' J, Inv (c + 1) G g' J → Rl 153 M_L_law 1495 (LL i) [] g' J K) : Rl 153 M_L_law 1043 (LL i) [] g I K := by
  obtain ⟨N, M, So, Si, Pl, Th, He, Wt, T, n, tn, n2, tn2, w, z, kept, hH, hC, hM, hO⟩ := hI
  have G0 := hH.1
  have hg := hH.2.1
  obtain ⟨ok, okw, okk, oks, okh, okt, hw60, h1556⟩ := id hO
  have n14 : n ≤ 14 := ok.2.1
  have m14 : kept = true → n2 ≤ 14 := fun k => (okk k).1.2.1
  have a0 : isAg g 0 9 11 := ga G0 (by decide) rfl
  have a1 : isAg g 101 10 31 := ga G0 (by decide) rfl
  obtain ⟨c1, c2, c3, c4, c5, c6, c7⟩ := id hC
  unfold LL
  repeat' (first
    | ((first | refine T_aload_n (pc1 := 1044) (pc := 1043) k_L_law_1043 rfl rfl ?_ | refine T_aload_nN (pc1 := 1044) (pc := 1043) k_L_law_1043 rfl rfl ?_) <;> try ((first | refine T_aload_n (pc1 := 1045) (pc := 1044) k_L_law_1044 rfl rfl ?_ | refine T_aload_nN (pc1 := 1045) (pc := 1044) k_L_law_1044 rfl rfl ?_) <;> try (refine T_iload_n (pc1 := 1046) (pc := 1045) k_L_law_1045 rfl rfl ?_ <;> try (refine T_iconst (v := (nI 1)) (pc1 := 1047) (pc := 1046) k_L_law_1046 rfl (by decide) ?_ <;> try ((first | with_reducible refine T_iaddN (pc1 := 1048) (pc := 1047) k_L_law_1047 (by decide) ?_ | refine T_iadd (pc1 := 1048) (pc := 1047) k_L_law_1047 rfl ?_) <;> try (refine T_scN (pc1 := 1049) (pc := 1048) k_L_law_1048 rfl (by assumption) (by omega) (by omega) ?_ <;> try ((first | refine T_aload_n (pc1 := 1050) (pc := 1049) k_L_law_1049 rfl rfl ?_ | refine T_aload_nN (pc1 := 1050) (pc := 1049) k_L_law_1049 rfl rfl ?_) <;> try (refine T_iload_n (pc1 := 1051) (pc := 1050) k_L_law_1050 rfl rfl ?_ <;> try (refine T_iconst (v := (nI 2)) (pc1 := 1052) (pc := 1051) k_L_law_1051 rfl (by decide) ?_ <;> try ((first | with_reducible refine T_iaddN (pc1 := 1053) (pc := 1052) k_L_law_1052 (by decide) ?_ | refine T_iadd (pc1 := 1053) (pc := 1052) k_L_law_1052 rfl ?_) <;> try (refine T_scN (pc1 := 1054) (pc := 1053) k_L_law_1053 rfl (by assumption) (by omega) (by omega) ?_ <;> try ((first | refine T_aload_n (pc1 := 1055) (pc := 1054) k_L_law_1054 rfl rfl ?_ | refine T_aload_nN (pc1 := 1055) (pc := 1054) k_L_law_1054 rfl rfl ?_) <;> try (refine T_iload_n (pc1 := 1056) (pc := 1055) k_L_law_1055 rfl rfl ?_ <;> try (refine T_iconst (v := (nI 3)) (pc1 := 1057) (pc := 1056) k_L_law_1056 rfl (by decide) ?_))))))))))))))
    | ((first | with_reducible refine T_iaddN (pc1 := 1058) (pc := 1057) k_L_law_1057 (by decide) ?_ | refine T_iadd (pc1 := 1058) (pc := 1057) k_L_law_1057 rfl ?_) <;> try (refine T_scN (pc1 := 1059) (pc := 1058) k_L_law_1058 rfl (by assumption) (by omega) (by omega) ?_))
    | refine T_aload_n (pc1 := 1045) (pc := 1044) k_L_law_1044 rfl rfl ?_
    | refine T_aload_nN (pc1 := 1045) (pc := 1044) k_L_law_1044 rfl rfl ?_
    | refine T_iload_n (pc1 := 1046) (pc := 1045) k_L_law_1045 rfl rfl ?_
    | refine T_iconst (v := (nI 1)) (pc1 := 1047) (pc := 1046) k_L_law_1046 rfl (by decide) ?_
    | with_reducible refine T_iaddN (pc1 := 1048) (pc := 1047) k_L_law_1047 (by decide) ?_
    | refine T_iadd (pc1 := 1048) (pc := 1047) k_L_law_1047 rfl ?_
    | refine T_scN (pc1 := 1049) (pc := 1048) k_L_law_1048 rfl (by assumption) (by omega) (by omega) ?_
    | refine T_aload_n (pc1 := 1050) (pc := 1049) k_L_law_1049 rfl rfl ?_
    | refine T_aload_nN (pc1 := 1050) (pc := 1049) k_L_law_1049 rfl rfl ?_
    | refine T_iload_n (pc1 := 1051) (pc := 1050) k_L_law_1050 rfl rfl ?_
    | refine T_iconst (v := (nI 2)) (pc1 := 1052) (pc := 1051) k_L_law_1051 rfl (by decide) ?_
    | with_reducible refine T_iaddN (pc1 := 1053) (pc := 1052) k_L_law_1052 (by decide) ?_
    | refine T_iadd (pc1 := 1053) (pc := 1052) k_L_law_1052 rfl ?_
    | refine T_scN (pc1 := 1054) (pc := 1053) k_L_law_1053 rfl (by assumption) (by omega) (by omega) ?_
    | refine T_aload_n (pc1 := 1055) (pc := 1054) k_L_law_1054 rfl rfl ?_
    | refine T_aload_nN (pc1 := 1055) (pc := 1054) k_L_law_1054 rfl rfl ?_
    | refine T_iload_n (pc1 := 1056) (pc := 1055) k_L_law_1055 rfl rfl ?_
    | refine T_iconst (v := (nI 3)) (pc1 := 1057) (pc := 1056) k_L_law_1056 rfl (by decide) ?_
    | refine T_scN (pc1 := 1059) (pc := 1058) k_L_law_1058 rfl (by assumption) (by omega) (by omega) ?_)
  (refine T_cV (As := [_, _, _]) (d1 := 3) (pc1 := 1062) (pc := 1059) k_L_law_1059 rfl (by decide) (Nat.le_of_ble_eq_true rfl) rfl o_S_sheet l_L_126 rfl (by assumption) rfl (c_S_sheet G0 c4 fun J1 r1 f1 S1 e1 => ?_) <;> try dsimp only [psh])
  have C1 := CI_sh hC n14 m14 f1 S1
  have M1 := MI_fr hM f1 (fun i h1 h2 h3 => by unfold shf at h3; omega)
  obtain ⟨x102, x103, xk, xSo, xSi, xPl, xTh, xHe, xWt, xw, xT, xz⟩ := id M1
  repeat' (first
    | ((first | refine T_aload_n (pc1 := 1063) (pc := 1062) k_L_law_1062 rfl rfl ?_ | refine T_aload_nN (pc1 := 1063) (pc := 1062) k_L_law_1062 rfl rfl ?_) <;> try ((first | refine T_aload_n (pc1 := 1064) (pc := 1063) k_L_law_1063 rfl rfl ?_ | refine T_aload_nN (pc1 := 1064) (pc := 1063) k_L_law_1063 rfl rfl ?_) <;> try (refine T_iload_n (pc1 := 1065) (pc := 1064) k_L_law_1064 rfl rfl ?_ <;> try (refine T_iconst (v := (nI 1)) (pc1 := 1066) (pc := 1065) k_L_law_1065 rfl (by decide) ?_ <;> try ((first | with_reducible refine T_iaddN (pc1 := 1067) (pc := 1066) k_L_law_1066 (by decide) ?_ | refine T_iadd (pc1 := 1067) (pc := 1066) k_L_law_1066 rfl ?_) <;> try (refine T_scN (pc1 := 1068) (pc := 1067) k_L_law_1067 rfl (by assumption) (by omega) (by omega) ?_ <;> try ((first | refine T_aload_n (pc1 := 1069) (pc := 1068) k_L_law_1068 rfl rfl ?_ | refine T_aload_nN (pc1 := 1069) (pc := 1068) k_L_law_1068 rfl rfl ?_) <;> try (refine T_iload_n (pc1 := 1070) (pc := 1069) k_L_law_1069 rfl rfl ?_ <;> try (refine T_iconst (v := (nI 2)) (pc1 := 1071) (pc := 1070) k_L_law_1070 rfl (by decide) ?_ <;> try ((first | with_reducible refine T_iaddN (pc1 := 1072) (pc := 1071) k_L_law_1071 (by decide) ?_ | refine T_iadd (pc1 := 1072) (pc := 1071) k_L_law_1071 rfl ?_) <;> try (refine T_scN (pc1 := 1073) (pc := 1072) k_L_law_1072 rfl (by assumption) (by omega) (by omega) ?_ <;> try ((first | refine T_aload_n (pc1 := 1074) (pc := 1073) k_L_law_1073 rfl rfl ?_ | refine T_aload_nN (pc1 := 1074) (pc := 1073) k_L_law_1073 rfl rfl ?_) <;> try (refine T_iload_n (pc1 := 1075) (pc := 1074) k_L_law_1074 rfl rfl ?_ <;> try (refine T_iconst (v := (nI 3)) (pc1 := 1076) (pc := 1075) k_L_law_1075 rfl (by decide) ?_))))))))))))))
    | ((first | with_reducible refine T_iaddN (pc1 := 1077) (pc := 1076) k_L_law_1076 (by decide) ?_ | refine T_iadd (pc1 := 1077) (pc := 1076) k_L_law_1076 rfl ?_) <;> try (refine T_scN (pc1 := 1078) (pc := 1077) k_L_law_1077 rfl (by assumption) (by omega) (by omega) ?_))
    | refine T_aload_n (pc1 := 1064) (pc := 1063) k_L_law_1063 rfl rfl ?_
    | refine T_aload_nN (pc1 := 1064) (pc := 1063) k_L_law_1063 rfl rfl ?_
    | refine T_iload_n (pc1 := 1065) (pc := 1064) k_L_law_1064 rfl rfl ?_
    | refine T_iconst (v := (nI 1)) (pc1 := 1066) (pc := 1065) k_L_law_1065 rfl (by decide) ?_
    | with_reducible refine T_iaddN (pc1 := 1067) (pc := 1066) k_L_law_1066 (by decide) ?_
    | refine T_iadd (pc1 := 1067) (pc := 1066) k_L_law_1066 rfl ?_
    | refine T_scN (pc1 := 1068) (pc := 1067) k_L_law_1067 rfl (by assumption) (by omega) (by omega) ?_
    | refine T_aload_n (pc1 := 1069) (pc := 1068) k_L_law_1068 rfl rfl ?_
    | refine T_aload_nN (pc1 := 1069) (pc := 1068) k_L_law_1068 rfl rfl ?_
    | refine T_iload_n (pc1 := 1070) (pc := 1069) k_L_law_1069 rfl rfl ?_
    | refine T_iconst (v := (nI 2)) (pc1 := 1071) (pc := 1070) k_L_law_1070 rfl (by decide) ?_
    | with_reducible refine T_iaddN (pc1 := 1072) (pc := 1071) k_L_law_1071 (by decide) ?_
    | refine T_iadd (pc1 := 1072) (pc := 1071) k_L_law_1071 rfl ?_
    | refine T_scN (pc1 := 1073) (pc := 1072) k_L_law_1072 rfl (by assumption) (by omega) (by omega) ?_
    | refine T_aload_n (pc1 := 1074) (pc := 1073) k_L_law_1073 rfl rfl ?_
    | refine T_aload_nN (pc1 := 1074) (pc := 1073) k_L_law_1073 rfl rfl ?_
    | refine T_iload_n (pc1 := 1075) (pc := 1074) k_L_law_1074 rfl rfl ?_
    | refine T_iconst (v := (nI 3)) (pc1 := 1076) (pc := 1075) k_L_law_1075 rfl (by decide) ?_
    | refine T_scN (pc1 := 1078) (pc := 1077) k_L_law_1077 rfl (by assumption) (by omega) (by omega) ?_)
  (refine T_cV (As := [_, _, _]) (d1 := 3) (pc1 := 1081) (pc := 1078) k_L_law_1078 rfl (by decide) (Nat.le_of_ble_eq_true rfl) rfl o_M_sheet l_L_129 rfl (by assumption) rfl (c_M_sheet G0 xSo xSi xPl fun J2 r2 f2 q1 q2 e2 => ?_) <;> try dsimp only [psh])
  refine T_icmp_eq_t k_L_law_1081 rfl (e1.trans e2.symm) ?_
  exact kk g J2 ⟨N, M, _, _, _, Th, He, Wt, T, n, tn, n2, tn2, w, z, kept, HI_s hH, CI_mo C1 n14 m14 (eqx_fre f2 (by decide)), MI_sheet M1 f2 q1 q2, ⟨ok, okw, okk, okS_sheet oks, okh, okt, hw60, h1556⟩⟩
theorem cs_lay (hI : Inv c G g I) (hi : i + 6 ≤ G.1.2.1) (hl : G.1.2.1 ≤ 384) (kk : ∀ g' J, Inv (c + 1) G g' J → Rl 153 M_L_law 1495 (LL i) [] g' J K) : Rl 153 M_L_law 1238 (LL i) [] g I K := by
  obtain ⟨N, M, So, Si, Pl, Th, He, Wt, T, n, tn, n2, tn2, w, z, kept, hH, hC, hM, hO⟩ := hI
  have G0 := hH.1
  have hg := hH.2.1
  obtain ⟨ok, okw, okk, oks, okh, okt, hw60, h1556⟩ := id hO
  have n14 : n ≤ 14 := ok.2.1
  have m14 : kept = true → n2 ≤ 14 := fun k => (okk k).1.2.1
  have a0 : isAg g 0 9 11 := ga G0 (by decide) rfl
  have a1 : isAg g 101 10 31 := ga G0 (by decide) rfl
  obtain ⟨c1, c2, c3, c4, c5, c6, c7⟩ := id hC
  unfold LL
  repeat' (first
    | ((first | refine T_aload_n (pc1 := 1239) (pc := 1238) k_L_law_1238 rfl rfl ?_ | refine T_aload_nN (pc1 := 1239) (pc := 1238) k_L_law_1238 rfl rfl ?_) <;> try ((first | refine T_aload_n (pc1 := 1240) (pc := 1239) k_L_law_1239 rfl rfl ?_ | refine T_aload_nN (pc1 := 1240) (pc := 1239) k_L_law_1239 rfl rfl ?_) <;> try (refine T_iload_n (pc1 := 1241) (pc := 1240) k_L_law_1240 rfl rfl ?_ <;> try (refine T_iconst (v := (nI 1)) (pc1 := 1242) (pc := 1241) k_L_law_1241 rfl (by decide) ?_ <;> try ((first | with_reducible refine T_iaddN (pc1 := 1243) (pc := 1242) k_L_law_1242 (by decide) ?_ | refine T_iadd (pc1 := 1243) (pc := 1242) k_L_law_1242 rfl ?_) <;> try (refine T_scN (pc1 := 1244) (pc := 1243) k_L_law_1243 rfl (by assumption) (by omega) (by omega) ?_ <;> try ((first | refine T_aload_n (pc1 := 1245) (pc := 1244) k_L_law_1244 rfl rfl ?_ | refine T_aload_nN (pc1 := 1245) (pc := 1244) k_L_law_1244 rfl rfl ?_) <;> try (refine T_iload_n (pc1 := 1246) (pc := 1245) k_L_law_1245 rfl rfl ?_ <;> try (refine T_iconst (v := (nI 2)) (pc1 := 1247) (pc := 1246) k_L_law_1246 rfl (by decide) ?_ <;> try ((first | with_reducible refine T_iaddN (pc1 := 1248) (pc := 1247) k_L_law_1247 (by decide) ?_ | refine T_iadd (pc1 := 1248) (pc := 1247) k_L_law_1247 rfl ?_) <;> try (refine T_scN (pc1 := 1249) (pc := 1248) k_L_law_1248 rfl (by assumption) (by omega) (by omega) ?_ <;> try ((first | refine T_aload_n (pc1 := 1250) (pc := 1249) k_L_law_1249 rfl rfl ?_ | refine T_aload_nN (pc1 := 1250) (pc := 1249) k_L_law_1249 rfl rfl ?_) <;> try (refine T_iload_n (pc1 := 1251) (pc := 1250) k_L_law_1250 rfl rfl ?_ <;> try (refine T_iconst (v := (nI 3)) (pc1 := 1252) (pc := 1251) k_L_law_1251 rfl (by decide) ?_))))))))))))))
    | ((first | with_reducible refine T_iaddN (pc1 := 1253) (pc := 1252) k_L_law_1252 (by decide) ?_ | refine T_iadd (pc1 := 1253) (pc := 1252) k_L_law_1252 rfl ?_) <;> try (refine T_scN (pc1 := 1254) (pc := 1253) k_L_law_1253 rfl (by assumption) (by omega) (by omega) ?_))
    | refine T_aload_n (pc1 := 1240) (pc := 1239) k_L_law_1239 rfl rfl ?_
    | refine T_aload_nN (pc1 := 1240) (pc := 1239) k_L_law_1239 rfl rfl ?_
    | refine T_iload_n (pc1 := 1241) (pc := 1240) k_L_law_1240 rfl rfl ?_
    | refine T_iconst (v := (nI 1)) (pc1 := 1242) (pc := 1241) k_L_law_1241 rfl (by decide) ?_
    | with_reducible refine T_iaddN (pc1 := 1243) (pc := 1242) k_L_law_1242 (by decide) ?_
    | refine T_iadd (pc1 := 1243) (pc := 1242) k_L_law_1242 rfl ?_
    | refine T_scN (pc1 := 1244) (pc := 1243) k_L_law_1243 rfl (by assumption) (by omega) (by omega) ?_
    | refine T_aload_n (pc1 := 1245) (pc := 1244) k_L_law_1244 rfl rfl ?_
    | refine T_aload_nN (pc1 := 1245) (pc := 1244) k_L_law_1244 rfl rfl ?_
    | refine T_iload_n (pc1 := 1246) (pc := 1245) k_L_law_1245 rfl rfl ?_
    | refine T_iconst (v := (nI 2)) (pc1 := 1247) (pc := 1246) k_L_law_1246 rfl (by decide) ?_
    | with_reducible refine T_iaddN (pc1 := 1248) (pc := 1247) k_L_law_1247 (by decide) ?_
    | refine T_iadd (pc1 := 1248) (pc := 1247) k_L_law_1247 rfl ?_
    | refine T_scN (pc1 := 1249) (pc := 1248) k_L_law_1248 rfl (by assumption) (by omega) (by omega) ?_
    | refine T_aload_n (pc1 := 1250) (pc := 1249) k_L_law_1249 rfl rfl ?_
    | refine T_aload_nN (pc1 := 1250) (pc := 1249) k_L_law_1249 rfl rfl ?_
    | refine T_iload_n (pc1 := 1251) (pc := 1250) k_L_law_1250 rfl rfl ?_
    | refine T_iconst (v := (nI 3)) (pc1 := 1252) (pc := 1251) k_L_law_1251 rfl (by decide) ?_
    | refine T_scN (pc1 := 1254) (pc := 1253) k_L_law_1253 rfl (by assumption) (by omega) (by omega) ?_)
  (refine T_cV (As := [_, _, _]) (d1 := 3) (pc1 := 1257) (pc := 1254) k_L_law_1254 rfl (by decide) (Nat.le_of_ble_eq_true rfl) rfl o_S_lay l_L_147 rfl (by assumption) rfl (c_S_lay G0 ok c1 oks c4 c5 fun J1 r1 f1 S1 e1 => ?_) <;> try dsimp only [psh])
  have C1 := CI_sl hC n14 m14 f1 S1
  have M1 := MI_fr hM f1 (fun i h1 h2 h3 => by unfold slf at h3; omega)
  obtain ⟨x102, x103, xk, xSo, xSi, xPl, xTh, xHe, xWt, xw, xT, xz⟩ := id M1
  repeat' (first
    | ((first | refine T_aload_n (pc1 := 1258) (pc := 1257) k_L_law_1257 rfl rfl ?_ | refine T_aload_nN (pc1 := 1258) (pc := 1257) k_L_law_1257 rfl rfl ?_) <;> try ((first | refine T_aload_n (pc1 := 1259) (pc := 1258) k_L_law_1258 rfl rfl ?_ | refine T_aload_nN (pc1 := 1259) (pc := 1258) k_L_law_1258 rfl rfl ?_) <;> try (refine T_iload_n (pc1 := 1260) (pc := 1259) k_L_law_1259 rfl rfl ?_ <;> try (refine T_iconst (v := (nI 1)) (pc1 := 1261) (pc := 1260) k_L_law_1260 rfl (by decide) ?_ <;> try ((first | with_reducible refine T_iaddN (pc1 := 1262) (pc := 1261) k_L_law_1261 (by decide) ?_ | refine T_iadd (pc1 := 1262) (pc := 1261) k_L_law_1261 rfl ?_) <;> try (refine T_scN (pc1 := 1263) (pc := 1262) k_L_law_1262 rfl (by assumption) (by omega) (by omega) ?_ <;> try ((first | refine T_aload_n (pc1 := 1264) (pc := 1263) k_L_law_1263 rfl rfl ?_ | refine T_aload_nN (pc1 := 1264) (pc := 1263) k_L_law_1263 rfl rfl ?_) <;> try (refine T_iload_n (pc1 := 1265) (pc := 1264) k_L_law_1264 rfl rfl ?_ <;> try (refine T_iconst (v := (nI 2)) (pc1 := 1266) (pc := 1265) k_L_law_1265 rfl (by decide) ?_ <;> try ((first | with_reducible refine T_iaddN (pc1 := 1267) (pc := 1266) k_L_law_1266 (by decide) ?_ | refine T_iadd (pc1 := 1267) (pc := 1266) k_L_law_1266 rfl ?_) <;> try (refine T_scN (pc1 := 1268) (pc := 1267) k_L_law_1267 rfl (by assumption) (by omega) (by omega) ?_ <;> try ((first | refine T_aload_n (pc1 := 1269) (pc := 1268) k_L_law_1268 rfl rfl ?_ | refine T_aload_nN (pc1 := 1269) (pc := 1268) k_L_law_1268 rfl rfl ?_) <;> try (refine T_iload_n (pc1 := 1270) (pc := 1269) k_L_law_1269 rfl rfl ?_ <;> try (refine T_iconst (v := (nI 3)) (pc1 := 1271) (pc := 1270) k_L_law_1270 rfl (by decide) ?_))))))))))))))
    | ((first | with_reducible refine T_iaddN (pc1 := 1272) (pc := 1271) k_L_law_1271 (by decide) ?_ | refine T_iadd (pc1 := 1272) (pc := 1271) k_L_law_1271 rfl ?_) <;> try (refine T_scN (pc1 := 1273) (pc := 1272) k_L_law_1272 rfl (by assumption) (by omega) (by omega) ?_))
    | refine T_aload_n (pc1 := 1259) (pc := 1258) k_L_law_1258 rfl rfl ?_
    | refine T_aload_nN (pc1 := 1259) (pc := 1258) k_L_law_1258 rfl rfl ?_
    | refine T_iload_n (pc1 := 1260) (pc := 1259) k_L_law_1259 rfl rfl ?_
    | refine T_iconst (v := (nI 1)) (pc1 := 1261) (pc := 1260) k_L_law_1260 rfl (by decide) ?_
    | with_reducible refine T_iaddN (pc1 := 1262) (pc := 1261) k_L_law_1261 (by decide) ?_
    | refine T_iadd (pc1 := 1262) (pc := 1261) k_L_law_1261 rfl ?_
    | refine T_scN (pc1 := 1263) (pc := 1262) k_L_law_1262 rfl (by assumption) (by omega) (by omega) ?_
    | refine T_aload_n (pc1 := 1264) (pc := 1263) k_L_law_1263 rfl rfl ?_
    | refine T_aload_nN (pc1 := 1264) (pc := 1263) k_L_law_1263 rfl rfl ?_
    | refine T_iload_n (pc1 := 1265) (pc := 1264) k_L_law_1264 rfl rfl ?_
    | refine T_iconst (v := (nI 2)) (pc1 := 1266) (pc := 1265) k_L_law_1265 rfl (by decide) ?_
    | with_reducible refine T_iaddN (pc1 := 1267) (pc := 1266) k_L_law_1266 (by decide) ?_
    | refine T_iadd (pc1 := 1267) (pc := 1266) k_L_law_1266 rfl ?_
    | refine T_scN (pc1 := 1268) (pc := 1267) k_L_law_1267 rfl (by assumption) (by omega) (by omega) ?_
    | refine T_aload_n (pc1 := 1269) (pc := 1268) k_L_law_1268 rfl rfl ?_
    | refine T_aload_nN (pc1 := 1269) (pc := 1268) k_L_law_1268 rfl rfl ?_
    | refine T_iload_n (pc1 := 1270) (pc := 1269) k_L_law_1269 rfl rfl ?_
    | refine T_iconst (v := (nI 3)) (pc1 := 1271) (pc := 1270) k_L_law_1270 rfl (by decide) ?_
    | refine T_scN (pc1 := 1273) (pc := 1272) k_L_law_1272 rfl (by assumption) (by omega) (by omega) ?_)
  (refine T_cV (As := [_, _, _]) (d1 := 3) (pc1 := 1276) (pc := 1273) k_L_law_1273 rfl (by decide) (Nat.le_of_ble_eq_true rfl) rfl o_M_lay l_L_150 rfl (by assumption) rfl (c_M_lay G0 x102 ok xSo xSi xPl xTh xHe oks fun J2 r2 f2 q1 q2 e2 => ?_) <;> try dsimp only [psh])
  refine T_icmp_eq_t k_L_law_1276 rfl (e1.trans e2.symm) ?_
  refine kk g J2 ⟨N, M, So, Si, Pl, _, _, Wt, T, n, tn, n2, tn2, w, z, kept, HI_s hH, CI_mo C1 n14 m14 (eqx_fre f2 (by decide)), ?_, ⟨ok, okw, okk, oks, okH_lay ok oks okh, okt, hw60, h1556⟩⟩
  unfold MI
  rw [f2 101 (by decide), f2 102 (by decide), f2 103 (by decide), f2 108 (by decide), f2 114 (by decide), f2 115 (by decide), f2 116 (by decide), f2 120 (by decide)]
  exact ⟨x102, x103, xk, xSo, xSi, xPl, q1, q2, xWt, xw, xT, xz⟩
end La
