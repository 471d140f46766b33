/-! The law: its loop, its start. -/
section PLc
theorem Inv_s {c : Nat} {G g : Geo} {I : IM} (h : Inv c G g I) : Inv (c + 1) G g I := by
  obtain ⟨N, M, So, Si, Pl, Th, He, Wt, T, n, tn, n2, tn2, w, z, kept, hH, r⟩ := h
  exact ⟨N, M, So, Si, Pl, Th, He, Wt, T, n, tn, n2, tn2, w, z, kept, HI_s hH, r⟩
theorem Inv_H {c : Nat} {G g : Geo} {I : IM} (h : Inv c G g I) : HI c G g := by
  obtain ⟨N, M, So, Si, Pl, Th, He, Wt, T, n, tn, n2, tn2, w, z, kept, hH, r⟩ := h
  exact hH
theorem Bu_1 {g : Geo} (hz : gz g = 0) : Bu 1 (galloc g 9 11) := by
  refine ⟨by rw [gz_al, hz], fun i hi => ?_, fun i k hi => ?_⟩
  · obtain rfl : i = 0 := by omega
    rw [gk_al, hz, va_up_self]
    rfl
  · obtain rfl : i = 0 := by omega
    rw [gR_al, hz, va_up_self]
    by_cases h1 : k < 40
    · have q : ((List.range 40).all fun k => decide (cut 1 (R0 0 k) = none)) = true := by decide
      exact (of_decide_eq_true (List.all_eq_true.1 q k (List.mem_range.2 h1))).symm
    · rw [R0_big (by omega) (by omega)]
      rfl
theorem few_lt {L i : Nat} (hL : L < 6) (hi : i ≤ 384) : nI L - nI 6 < nI i := by
  rw [Int32.lt_iff_toInt_lt, nI_toInt (n := i) (by omega)]
  have h : (nI L - nI 6).toInt < 0 := by
    have hq : L = 0 ∨ L = 1 ∨ L = 2 ∨ L = 3 ∨ L = 4 ∨ L = 5 := by omega
    obtain rfl | rfl | rfl | rfl | rfl | rfl := hq <;> decide
  omega
end PLc
section Lc
variable {g G : Geo} {I : IM} {K : Option Value → Geo → IM → Prop} {c i : Nat}
theorem lw_exit (hg : g.1 = G.1) (hl : G.1.2.1 ≤ 384) (h : G.1.2.1 < i + 6) (hi : i ≤ 384) (kk : K (some (.int (nI 1))) g I) : Rl 153 M_L_law 18 (LL i) [] g I K := by
  unfold LL
  repeat' (first
    | (refine T_iload_n (pc1 := 19) (pc := 18) k_L_law_18 rfl rfl ?_ <;> try ((first | refine T_aload_n (pc1 := 20) (pc := 19) k_L_law_19 rfl rfl ?_ | refine T_aload_nN (pc1 := 20) (pc := 19) k_L_law_19 rfl rfl ?_) <;> try ((first | refine T_alenN (pc1 := 21) (pc := 20) k_L_law_20 rfl (by assumption) ?_ | refine T_sclen (pc1 := 21) (pc := 20) k_L_law_20 rfl ?_) <;> try (refine T_bipush (v := (nI 6)) (pc1 := 23) (pc := 21) k_L_law_21 rfl (by decide) ?_))))
    | refine T_aload_n (pc1 := 20) (pc := 19) k_L_law_19 rfl rfl ?_
    | refine T_aload_nN (pc1 := 20) (pc := 19) k_L_law_19 rfl rfl ?_
    | refine T_alenN (pc1 := 21) (pc := 20) k_L_law_20 rfl (by assumption) ?_
    | refine T_sclen (pc1 := 21) (pc := 20) k_L_law_20 rfl ?_
    | refine T_bipush (v := (nI 6)) (pc1 := 23) (pc := 21) k_L_law_21 rfl (by decide) ?_)
  rw [hg]
  by_cases h6 : 6 ≤ G.1.2.1
  · refine T_isubN (a := G.1.2.1) (b := 6) (pc := 23) (pc1 := 24) k_L_law_23 rfl h6 ?_
    refine T_icmp_gtN (a := i) (b := G.1.2.1 - 6) (tgt := 1501) (pc := 24) (pc1 := 27) k_L_law_24 rfl (by decide) (by omega) (by omega) (fun hc => ?_) (fun hc => ?_)
    · repeat' (first
        | (refine T_iconst (v := (nI 1)) (pc1 := 1502) (pc := 1501) k_L_law_1501 rfl (by decide) ?_ <;> try (refine T_retI (pc := 1502) k_L_law_1502 rfl (by first | rfl | decide | assumption) ?_))
        | refine T_retI (pc := 1502) k_L_law_1502 rfl (by first | rfl | decide | assumption) ?_)
      exact kk
    · exfalso
      omega
  · refine T_isub (x := nI G.1.2.1) (y := nI 6) (pc := 23) (pc1 := 24) k_L_law_23 rfl ?_
    refine T_icmp_gt_t (tgt := 1501) (pc := 24) k_L_law_24 rfl (few_lt (by omega) hi) ?_
    repeat' (first
      | (refine T_iconst (v := (nI 1)) (pc1 := 1502) (pc := 1501) k_L_law_1501 rfl (by decide) ?_ <;> try (refine T_retI (pc := 1502) k_L_law_1502 rfl (by first | rfl | decide | assumption) ?_))
      | refine T_retI (pc := 1502) k_L_law_1502 rfl (by first | rfl | decide | assumption) ?_)
    exact kk
theorem lw_step (hI : Inv c G g I) (hl : G.1.2.1 ≤ 384) (hF : G.1.2.2.category = 1) (hc : c ≤ 64) (hi : i + 6 ≤ G.1.2.1) (kk : ∀ g' J, Inv (c + 1) G g' J → Rl 153 M_L_law 18 (LL (i + 6)) [] g' J K) : Rl 153 M_L_law 18 (LL i) [] g I K := by
  have hg := (Inv_H hI).2.1
  have k1 : ∀ g' J, Inv (c + 1) G g' J → Rl 153 M_L_law 1495 (LL i) [] g' J K := fun g' J hJ => by
    have kj := kk g' J hJ
    unfold LL at kj ⊢
    repeat' (first
      | ((first | refine T_iincN (b := 6) (pc1 := 1498) (pc := 1495) k_L_law_1495 rfl rfl (by decide) ?_ | refine T_iinc (v := (nI 6)) (pc1 := 1498) (pc := 1495) k_L_law_1495 rfl rfl (by decide) ?_) <;> try (refine T_goto (tgt := 18) (pc := 1498) k_L_law_1498 rfl ?_))
      | refine T_goto (tgt := 18) (pc := 1498) k_L_law_1498 rfl ?_)
    exact kj
  have sw : ∀ x : Int32, Rl 153 M_L_law 33 (LL i) [.int x] g I K := fun x => by
    refine sw_L_law_33 (fun _ => cs_bit hI hi hl k1) (fun _ => cs_told hI hi hl k1) (fun _ => cs_as hI hi hl k1) (fun _ => cs_turns hI hi hl k1) (fun _ => cs_set hI hi hl k1) (fun _ => cs_rule hI hi hl k1) (fun _ => cs_deal hI hi hl k1) (fun _ => cs_seed hI hi hl k1) (fun _ => cs_walk hI hi hl k1) (fun _ => cs_latest hI hi hl k1) (fun _ => cs_tried hI hi hl k1) (fun _ => cs_hush hI hi hl k1) (fun _ => cs_best hI hi hl k1) (fun _ => cs_loses hI hi hl k1) (fun _ => cs_behind hI hi hl k1) (fun _ => cs_same hI hi hl k1) (fun _ => cs_look hI hi hl k1) (fun _ => cs_wanted hI hi hl k1) (fun _ => cs_reach hI hi hl k1) (fun _ => cs_ever hI hi hl k1) (fun _ => cs_wrong hI hi hl k1) (fun _ => cs_fine hI hi hl k1) (fun _ => cs_feed hI hi hl k1) (fun _ => cs_trim hI hi hl k1) (fun _ => cs_text hI hi hl hF hc k1) (fun _ => cs_textTold hI hi hl k1) (fun _ => cs_why hI hi hl k1) (fun _ => cs_sheet hI hi hl k1) (fun _ => cs_mark hI hi hl k1) (fun _ => cs_pour hI hi hl k1) (fun _ => cs_reads hI hi hl k1) (fun _ => cs_copy hI hi hl k1) (fun _ => cs_lay hI hi hl k1) (fun _ => cs_ask hI hi hl k1) (fun _ => cs_item hI hi hl k1) (fun _ => cs_rest hI hi hl k1) (fun _ => cs_tell hI hi hl k1) (fun _ => cs_check hI hi hl k1) (fun _ => cs_keep hI hi hl k1) (fun _ => cs_back hI hi hl k1) (fun _ => cs_count hI hi hl k1) (fun _ => ?_)
    · exact k1 g I (Inv_s hI)
  unfold LL at sw ⊢
  repeat' (first
    | (refine T_iload_n (pc1 := 19) (pc := 18) k_L_law_18 rfl rfl ?_ <;> try ((first | refine T_aload_n (pc1 := 20) (pc := 19) k_L_law_19 rfl rfl ?_ | refine T_aload_nN (pc1 := 20) (pc := 19) k_L_law_19 rfl rfl ?_) <;> try ((first | refine T_alenN (pc1 := 21) (pc := 20) k_L_law_20 rfl (by assumption) ?_ | refine T_sclen (pc1 := 21) (pc := 20) k_L_law_20 rfl ?_) <;> try (refine T_bipush (v := (nI 6)) (pc1 := 23) (pc := 21) k_L_law_21 rfl (by decide) ?_))))
    | refine T_aload_n (pc1 := 20) (pc := 19) k_L_law_19 rfl rfl ?_
    | refine T_aload_nN (pc1 := 20) (pc := 19) k_L_law_19 rfl rfl ?_
    | refine T_alenN (pc1 := 21) (pc := 20) k_L_law_20 rfl (by assumption) ?_
    | refine T_sclen (pc1 := 21) (pc := 20) k_L_law_20 rfl ?_
    | refine T_bipush (v := (nI 6)) (pc1 := 23) (pc := 21) k_L_law_21 rfl (by decide) ?_)
  rw [hg]
  refine T_isubN (a := G.1.2.1) (b := 6) (pc := 23) (pc1 := 24) k_L_law_23 rfl (by omega) ?_
  refine T_icmp_gtN (a := i) (b := G.1.2.1 - 6) (tgt := 1501) (pc := 24) (pc1 := 27) k_L_law_24 rfl (by decide) (by omega) (by omega) (fun hc => ?_) (fun hc => ?_)
  · exfalso
    omega
  · repeat' (first
      | ((first | refine T_aload_n (pc1 := 28) (pc := 27) k_L_law_27 rfl rfl ?_ | refine T_aload_nN (pc1 := 28) (pc := 27) k_L_law_27 rfl rfl ?_) <;> try (refine T_iload_n (pc1 := 29) (pc := 28) k_L_law_28 rfl rfl ?_ <;> try (refine T_scN (pc1 := 30) (pc := 29) k_L_law_29 rfl (by assumption) (by omega) (by omega) ?_ <;> try (refine T_bipush (v := (nI 63)) (pc1 := 32) (pc := 30) k_L_law_30 rfl (by decide) ?_ <;> try (refine T_iand (pc1 := 33) (pc := 32) k_L_law_32 rfl ?_)))))
      | refine T_iload_n (pc1 := 29) (pc := 28) k_L_law_28 rfl rfl ?_
      | refine T_scN (pc1 := 30) (pc := 29) k_L_law_29 rfl (by assumption) (by omega) (by omega) ?_
      | refine T_bipush (v := (nI 63)) (pc1 := 32) (pc := 30) k_L_law_30 rfl (by decide) ?_
      | refine T_iand (pc1 := 33) (pc := 32) k_L_law_32 rfl ?_)
    exact sw _
theorem lw_loop (hl : G.1.2.1 ≤ 384) (hF : G.1.2.2.category = 1) (kk : ∀ g J, gz g ≤ 400 → gs g ≤ gs G + 60000 → K (some (.int (nI 1))) g J) : ∀ (q c i : Nat) (g : Geo) (I : IM), i = 6 * c → G.1.2.1 < i + 6 + 6 * q → i ≤ 384 → Inv c G g I → Rl 153 M_L_law 18 (LL i) [] g I K := by
  have fin : ∀ (c : Nat) (g : Geo) (I : IM), 6 * c ≤ 384 → Inv c G g I → K (some (.int (nI 1))) g I := fun c g I h1 h2 => by
    obtain ⟨_, _, a1, _, a2⟩ := Inv_H h2
    exact kk g I (by omega) (by omega)
  intro q
  induction q with
  | zero =>
    intro c i g I h1 h2 h3 hI
    exact lw_exit (Inv_H hI).2.1 hl (by omega) h3 (fin c g I (by omega) hI)
  | succ q ih =>
    intro c i g I h1 h2 h3 hI
    by_cases h : i + 6 ≤ G.1.2.1
    · exact lw_step hI hl hF (by omega) h fun g' J hJ => ih (c + 1) (i + 6) g' J (by omega) (by omega) (by omega) hJ
    · exact lw_exit (Inv_H hI).2.1 hl (by omega) h3 (fin c g I (by omega) hI)
theorem c_L_law (hz : gz g = 0) (hs : gs g = 0) (hl : g.1.2.1 ≤ 384) (hF : g.1.2.2.category = 1) (kk : ∀ g' J, gz g' ≤ 400 → gs g' ≤ 100000 → K (some (.int (nI 1))) g' J) : Cl 153 M_L_law [.ref 1000300] g I K := by
  show Rl 153 M_L_law 0 [some (.ref 1000300), none, none, none] [] g I K
  refine T_new (pc := 0) (pc1 := 3) k_L_law_0 rfl w_L_7 (by omega) ?_
  rw [hz]
  refine T_dup (pc1 := 4) (pc := 3) k_L_law_3 rfl rfl ?_
  (refine T_cI (As := []) (d1 := 3) (pc1 := 7) (pc := 4) k_L_law_4 rfl (by decide) (Nat.le_of_ble_eq_true rfl) rfl o_S_init l_L_9 rfl (c_S_init (Bu_1 hz) fun g1 J1 h1 => ?_) <;> try dsimp only [psh])
  first | refine T_astore_n (pc1 := 8) (pc := 7) k_L_law_7 rfl (Nat.le_of_ble_eq_true rfl) ?_ | refine T_astore_nN (pc1 := 8) (pc := 7) k_L_law_7 rfl (Nat.le_of_ble_eq_true rfl) ?_
  have hz1 := h1.1.1
  refine T_new (pc := 8) (pc1 := 11) k_L_law_8 rfl w_L_10 (by omega) ?_
  rw [hz1]
  refine T_dup (pc1 := 12) (pc := 11) k_L_law_11 rfl rfl ?_
  (refine T_cI (As := []) (d1 := 1) (pc1 := 15) (pc := 12) k_L_law_12 rfl (by decide) (Nat.le_of_ble_eq_true rfl) rfl o_M_init l_L_12 rfl (c_M_init h1.1 fun g2 J2 B e s z => ?_) <;> try dsimp only [psh])
  repeat' (first
    | ((first | refine T_astore_n (pc1 := 16) (pc := 15) k_L_law_15 rfl (Nat.le_of_ble_eq_true rfl) ?_ | refine T_astore_nN (pc1 := 16) (pc := 15) k_L_law_15 rfl (Nat.le_of_ble_eq_true rfl) ?_) <;> try (refine T_iconst (v := (nI 0)) (pc1 := 17) (pc := 16) k_L_law_16 rfl (by decide) ?_ <;> try (refine T_istore_n (pc1 := 18) (pc := 17) k_L_law_17 rfl (Nat.le_of_ble_eq_true rfl) ?_)))
    | refine T_iconst (v := (nI 0)) (pc1 := 17) (pc := 16) k_L_law_16 rfl (by decide) ?_
    | refine T_istore_n (pc1 := 18) (pc := 17) k_L_law_17 rfl (Nat.le_of_ble_eq_true rfl) ?_)
  have hI := Inv0 h1 B e s z
  have hG : gs (galloc g 9 11) = gs g + 11 := rfl
  exact lw_loop (G := galloc g 9 11) hl hF (fun g' J a1 a2 => kk g' J a1 (by omega)) 64 0 0 _ _ rfl (by show g.1.2.1 < _; omega) (by omega) hI
end Lc
