/-! The model: same, look, wanted, reach, ever. -/
section PU8
/-- what is looked at of a walk -/
def vr (N : Row) (k : Nat) : Int32 := if k < 2 then N (8 + k) else if k - 2 < (N 9).toNatClampNeg then N (96 + (k - 2)) else -1
def allB (p : Nat → Bool) : Nat → Bool
  | 0 => true
  | k + 1 => allB p k && p k
theorem allB_iff {p : Nat → Bool} : ∀ n, allB p n = true ↔ ∀ k, k < n → p k = true
  | 0 => ⟨fun _ k hk => absurd hk (Nat.not_lt_zero _), fun _ => rfl⟩
  | n + 1 => by
    unfold allB
    rw [Bool.and_eq_true, allB_iff n]
    constructor
    · intro ⟨a, b⟩ k hk
      by_cases h : k = n
      · subst h; exact b
      · exact a k (by omega)
    · intro a
      exact ⟨fun k hk => a k (by omega), a n (by omega)⟩
def vE (N M : Row) : Bool := allB (fun k => decide (M k = vr N k)) 62
theorem vE_iff {N M : Row} : vE N M = true ↔ ∀ k, k < 62 → M k = vr N k := by
  unfold vE
  rw [allB_iff]
  exact ⟨fun h k hk => of_decide_eq_true (h k hk), fun h k hk => decide_eq_true (h k hk)⟩
/-- the latest walk of a row is in order -/
def okW (N : Row) : Prop := ∃ tr : Nat, tr ≤ 60 ∧ N 9 = nI tr ∧ ((N 7 = nI 0 ∧ tr = 0) ∨ N 7 = nI 1) ∧ (∀ i, i < tr → ∃ b, b < 14 ∧ N (96 + i) = nI b)
theorem wkE_8 {w : WR} : wkE w 8 = nI w.2.2.1 := by
  unfold wkE
  rw [va_up_ne _ _ (by decide), va_up_ne _ _ (by decide), va_up_ne _ _ (by decide), va_up_ne _ _ (by decide), va_up_ne _ _ (by decide), va_up_self]
theorem wkE_9 {w : WR} : wkE w 9 = nI w.2.2.2.1 := by
  unfold wkE
  rw [va_up_ne _ _ (by decide), va_up_ne _ _ (by decide), va_up_ne _ _ (by decide), va_up_ne _ _ (by decide), va_up_self]
theorem wkE_7 {w : WR} : wkE w 7 = nI 1 := by
  unfold wkE
  rw [va_up_ne _ _ (by decide), va_up_ne _ _ (by decide), va_up_ne _ _ (by decide), va_up_ne _ _ (by decide), va_up_ne _ _ (by decide), va_up_ne _ _ (by decide), va_up_self]
theorem wkN_okW {N : Row} {n tn fr to0 : Nat} (ok : okL N n tn) (hf : fr < 8) (ht : to0 < 8) : okW (wkN N n tn fr to0) := by
  have h := wkW_ok ok hf ht
  have h14 := ok.2.1
  refine ⟨(wkW N n tn fr to0).2.2.2.1, h.2.2.1, wkE_9, Or.inr wkE_7, fun i hi => ?_⟩
  obtain ⟨b, hb, e⟩ := h.2.2.2.2.2.2.1 i hi
  have := h.2.2.1
  exact ⟨b, by omega, by unfold wkN; rw [wkE_ne (by omega)]; exact e⟩
def smP (N : Row) (n tn fr to0 j : Nat) : Bool := vE (itN N n tn fr to0 (j + 1)) (vr (itN N n tn fr to0 j))
def oNo (o : Option Nat) : Int32 := match o with
  | none => cNONE
  | some t => nI t
def sameA (N : Row) (n tn : Nat) (f t : Int32) : Int32 := if rg 8 f ∧ rg 8 t then oNo (lsq (smP N n tn f.toNatClampNeg t.toNatClampNeg) 1 40) else cBAD
/-- the one that is the best of the first so many -/
def sel (lt : Nat → Nat → Bool) (m : Nat → Nat) : Nat → Option (Nat × Nat)
  | 0 => none
  | b + 1 => match sel lt m b with
    | none => some (b, m b)
    | some q => if lt (m b) q.2 = true then some (b, m b) else some q
theorem sel_in {lt : Nat → Nat → Bool} {m : Nat → Nat} : ∀ {b : Nat} {q : Nat × Nat}, sel lt m b = some q → q.1 < b ∧ q.2 = m q.1
  | 0, q, h => by cases h
  | b + 1, q, h => by
    unfold sel at h
    cases hs : sel lt m b with
    | none => rw [hs] at h; cases h; exact ⟨by show b < b + 1; omega, rfl⟩
    | some r =>
      rw [hs] at h
      dsimp only at h
      have := sel_in hs
      by_cases c : lt (m b) r.2 = true
      · rw [if_pos c] at h; cases h; exact ⟨by show b < b + 1; omega, rfl⟩
      · rw [if_neg c] at h; cases h; exact ⟨by omega, this.2⟩
def lkM (N : Row) (n tn fr to0 b : Nat) : Nat := wkM (va_up N (12 + 6 * b + 5) (nI (min 999 (tkk N tn b)))) n tn fr to0
def lkS (N : Row) (n tn fr to0 : Nat) : Nat → Option (Nat × Nat) := sel (fun a b => decide (a < b)) (lkM N n tn fr to0)
def lookA (N : Row) (n tn : Nat) (f t w : Int32) : Int32 := if (rg 8 f ∧ rg 8 t) ∧ rg 2 w then (match lkS N n tn f.toNatClampNeg t.toNatClampNeg n with
  | none => cNONE
  | some q => if w = nI 0 then nI q.1 else nI q.2) else cBAD
def wtM (N : Row) (n tn fr to0 b : Nat) : Nat := if 1000000 ≤ bst N n tn (nI b) fr to0 then 999 else bst N n tn (nI b) fr to0
def wtS (N : Row) (n tn fr to0 : Nat) : Nat → Option (Nat × Nat) := sel (fun a b => decide (b < a)) (wtM N n tn fr to0)
def wantedA (N : Row) (n tn : Nat) (f t : Int32) : Int32 := if rg 8 f ∧ rg 8 t then oNo ((wtS N n tn f.toNatClampNeg t.toNatClampNeg n).map (fun q => q.1)) else cBAD
def msk (p : Nat → Bool) : Nat → Nat
  | 0 => 0
  | s + 1 => msk p s ||| (if p s = true then 2 ^ s else 0)
theorem msk_lt {p : Nat → Bool} : ∀ s, s ≤ 14 → msk p s < 2 ^ 14
  | 0, _ => by unfold msk; omega
  | s + 1, h => by
    unfold msk
    refine Nat.or_lt_two_pow (msk_lt s (by omega)) ?_
    split
    · exact Nat.pow_lt_pow_right (by decide) (by omega)
    · decide
def reachA (N : Row) (n tn : Nat) (f m : Int32) : Int32 := if rg 8 f ∧ bt 0 999 m then nI (msk (fun s => decide (dst (ed N) (bcs N tn (-1)) n f.toNatClampNeg s ≤ m.toNatClampNeg)) 8) else cBAD
theorem dst_0 {e : Nat → Nat × Nat} {c : Nf} {n goal : Nat} (he : okE e n) : dst e c n goal goal = 0 := by
  obtain ⟨d, hd⟩ := isD_ex e c n goal
  exact (rnds_gd he hd (ini_gd hd) 8).1.2.2
/-- the bits of the first k tries, with those of F -/
def tmk (N : Row) (F : Nat) : Nat → Nat
  | 0 => F
  | i + 1 => tmk N F i ||| 2 ^ (N (96 + i)).toNatClampNeg
def evF (N : Row) (n tn fr to0 : Nat) : Nat → Nat
  | 0 => 0
  | k + 1 => tmk (itN N n tn fr to0 (k + 1)) (evF N n tn fr to0 k) (itN N n tn fr to0 (k + 1) 9).toNatClampNeg
theorem tmk_lt {N : Row} {F tr : Nat} (hF : F < 2 ^ 14) (h : ∀ i, i < tr → ∃ b, b < 14 ∧ N (96 + i) = nI b) : ∀ k, k ≤ tr → tmk N F k < 2 ^ 14
  | 0, _ => hF
  | k + 1, hk => by
    unfold tmk
    obtain ⟨b, hb, e⟩ := h k (by omega)
    rw [e, nI_clamp (by omega)]
    exact Nat.or_lt_two_pow (tmk_lt hF h k (by omega)) (Nat.pow_lt_pow_right (by decide) hb)
theorem itN_okW {N : Row} {n tn fr to0 : Nat} (ok : okL N n tn) (hf : fr < 8) (ht : to0 < 8) (k : Nat) : okW (itN N n tn fr to0 (k + 1)) := wkN_okW (itN_ok ok hf ht k).1 hf ht
theorem evF_lt {N : Row} {n tn fr to0 : Nat} (ok : okL N n tn) (hf : fr < 8) (ht : to0 < 8) : ∀ k, evF N n tn fr to0 k < 2 ^ 14
  | 0 => by unfold evF; omega
  | k + 1 => by
    unfold evF
    obtain ⟨tr, h60, h9, -, hb⟩ := itN_okW (fr := fr) (to0 := to0) ok hf ht k
    rw [h9, nI_clamp (by omega)]
    exact tmk_lt (evF_lt ok hf ht k) hb tr (Nat.le_refl _)
def everA (N : Row) (n tn : Nat) (f t m : Int32) : Int32 := if (rg 8 f ∧ rg 8 t) ∧ bt 1 40 m then nI (evF N n tn f.toNatClampNeg t.toNatClampNeg m.toNatClampNeg) else cBAD
theorem okL_said {N : Row} {n tn b s : Nat} (ok : okL N n tn) (hb : b < n) (hs : s ≤ 999) : okL (va_up N (12 + 6 * b + 5) (nI s)) n tn := by
  have h14 := ok.2.1
  refine okL_agr ok (va_up_ne _ _ (by omega)) (va_up_ne _ _ (by omega)) (va_up_ne _ _ (by omega)) (va_up_ne _ _ (by omega)) (fun j hj => ?_) (fun k hk => va_up_ne _ _ (by omega))
  obtain ⟨k, o, t, l, r, h0, h0', h1, h1', h2, h2', hne, h3, h3', h3'', h4, h4', h5⟩ := ok.2.2.2.2.1 j hj
  refine ⟨k, o, t, l, r, ?_, h0', ?_, h1', ?_, h2', hne, ?_, h3', h3'', ?_, h4', ?_⟩
  · unfold bf; rw [va_up_ne _ _ (by omega)]; exact h0
  · unfold bf; rw [va_up_ne _ _ (by omega)]; exact h1
  · unfold bf; rw [va_up_ne _ _ (by omega)]; exact h2
  · unfold bf; rw [va_up_ne _ _ (by omega)]; exact h3
  · unfold bf; rw [va_up_ne _ _ (by omega)]; exact h4
  · by_cases h : j = b
    · subst h
      exact Or.inr ⟨s, hs, by unfold bf; rw [va_up_self]⟩
    · unfold bf; rw [va_up_ne _ _ (by omega)]; exact h5
end PU8
section M12
variable {g : Geo} {I : IM} {K : Option Value → Geo → IM → Prop}
set_option maxHeartbeats 4000000 in
theorem c_M_isAsLast {N : Row} (G : GeoOK g) (hN : I 102 = N) (hW : okW N) (kk : ∀ J, eqx [107] I J → (∀ k, k < 62 → J 107 k = vr N k) → K (some (.int (if vE N (I 107) = true then nI 1 else nI 0))) g J) : Cl 1 M_M_isAsLast [.ref 101] g I K := by
  show Rl 1 M_M_isAsLast 0 [some (.ref 101), none, none, none] [] g I K
  obtain ⟨tr, h60, h9, -, hb⟩ := hW
  have loop : ∀ q k o3 (f : Bool) (J : IM), k + q = 62 → eqx [107] I J → (∀ j, j < k → J 107 j = vr N j) → (∀ j, k ≤ j → J 107 j = I 107 j) → (f = true ↔ ∀ j, j < k → I 107 j = vr N j) → Rl 1 M_M_isAsLast 4 [some (.ref 101), some (.int (nI (if f = true then 1 else 0))), some (.int (nI k)), o3] [] g J K := by
    intro q
    induction q with
    | zero =>
      intro k o3 f J hk hJ hv hv2 hf
      have hk : k = 62 := by omega
      subst hk
      have kk := kk J hJ hv
      have e : vE N (I 107) = f := by
        cases f with
        | true => exact vE_iff.mpr (hf.mp rfl)
        | false =>
          cases h : vE N (I 107) with
          | false => rfl
          | true => exact absurd (hf.mpr (vE_iff.mp h)) (by decide)
      rw [e] at kk
      cases f
      all_goals
        repeat' (first
          | refine T_iconst (v := (nI 1)) (pc1 := 1) (pc := 0) k_M_isAsLast_0 rfl (by decide) ?_
          | refine T_istore_n (pc1 := 2) (pc := 1) k_M_isAsLast_1 rfl (Nat.le_of_ble_eq_true rfl) ?_
          | refine T_iconst (v := (nI 0)) (pc1 := 3) (pc := 2) k_M_isAsLast_2 rfl (by decide) ?_
          | refine T_istore_n (pc1 := 4) (pc := 3) k_M_isAsLast_3 rfl (Nat.le_of_ble_eq_true rfl) ?_
          | refine T_iload_n (pc1 := 5) (pc := 4) k_M_isAsLast_4 rfl rfl ?_
          | refine T_bipush (v := (nI 62)) (pc1 := 7) (pc := 5) k_M_isAsLast_5 rfl (by decide) ?_
          | (with_reducible refine T_icmp_geN (tgt := 89) (pc1 := 10) (pc := 7) k_M_isAsLast_7 (by decide) (by decide) (by omega) (by omega) (fun hc => ?_) (fun hc => ?_) <;> first | (exfalso; omega) | skip)
          | refine T_icmp_ge_t (tgt := 89) (pc := 7) k_M_isAsLast_7 rfl (by decide) ?_
          | refine T_icmp_ge_f (tgt := 89) (pc1 := 10) (pc := 7) k_M_isAsLast_7 rfl rfl (by decide) ?_
          | refine T_icmp_ge (tgt := 89) (pc1 := 10) (pc := 7) k_M_isAsLast_7 rfl rfl (fun hc => ?_) (fun hc => ?_)
          | refine T_iload_n (pc1 := 11) (pc := 10) k_M_isAsLast_10 rfl rfl ?_
          | refine T_iconst (v := (nI 2)) (pc1 := 12) (pc := 11) k_M_isAsLast_11 rfl (by decide) ?_
          | (with_reducible refine T_icmp_geN (tgt := 27) (pc1 := 15) (pc := 12) k_M_isAsLast_12 (by decide) (by decide) (by omega) (by omega) (fun hc => ?_) (fun hc => ?_) <;> first | (exfalso; omega) | skip)
          | refine T_icmp_ge_t (tgt := 27) (pc := 12) k_M_isAsLast_12 rfl (by decide) ?_
          | refine T_icmp_ge_f (tgt := 27) (pc1 := 15) (pc := 12) k_M_isAsLast_12 rfl rfl (by decide) ?_
          | refine T_icmp_ge (tgt := 27) (pc1 := 15) (pc := 12) k_M_isAsLast_12 rfl rfl (fun hc => ?_) (fun hc => ?_)
          | refine T_aload_n (pc1 := 16) (pc := 15) k_M_isAsLast_15 rfl rfl ?_
          | refine T_aload_nN (pc1 := 16) (pc := 15) k_M_isAsLast_15 rfl rfl ?_
          | refine T_getR (pc1 := 19) (pc := 16) k_M_isAsLast_16 rfl f_M_9 rfl (by first | exact ga G (by decide) rfl | assumption) (by first | exact gr G (by decide) rfl | assumption) ?_
          | refine T_bipush (v := (nI 8)) (pc1 := 21) (pc := 19) k_M_isAsLast_19 rfl (by decide) ?_
          | refine T_iload_n (pc1 := 22) (pc := 21) k_M_isAsLast_21 rfl rfl ?_
          | with_reducible refine T_iaddN (pc1 := 23) (pc := 22) k_M_isAsLast_22 (by decide) ?_
          | refine T_iadd (pc1 := 23) (pc := 22) k_M_isAsLast_22 rfl ?_
          | refine T_ialdN (pc1 := 24) (pc := 23) k_M_isAsLast_23 rfl (by first | exact ga G (by decide) rfl | assumption) (by omega) (by omega) (by first | assumption | (simp (disch := omega) only [pI_eq, pI_row, pI_col, va_up_self, va_up_ne, ne_eq, not_false_eq_true, hJN, hn] <;> rfl) | rfl) ?_
          | refine T_iald (pc1 := 24) (pc := 23) k_M_isAsLast_23 rfl (by first | exact ga G (by decide) rfl | assumption) (by assumption) ?_
          | refine T_goto (tgt := 55) (pc := 24) k_M_isAsLast_24 rfl ?_
          | refine T_iload_n (pc1 := 28) (pc := 27) k_M_isAsLast_27 rfl rfl ?_
          | refine T_iconst (v := (nI 2)) (pc1 := 29) (pc := 28) k_M_isAsLast_28 rfl (by decide) ?_
          | with_reducible refine T_isubN (pc1 := 30) (pc := 29) k_M_isAsLast_29 (by decide) (by omega) ?_
          | refine T_isub (pc1 := 30) (pc := 29) k_M_isAsLast_29 rfl ?_
          | refine T_aload_n (pc1 := 31) (pc := 30) k_M_isAsLast_30 rfl rfl ?_
          | refine T_aload_nN (pc1 := 31) (pc := 30) k_M_isAsLast_30 rfl rfl ?_
          | refine T_getR (pc1 := 34) (pc := 31) k_M_isAsLast_31 rfl f_M_9 rfl (by first | exact ga G (by decide) rfl | assumption) (by first | exact gr G (by decide) rfl | assumption) ?_
          | refine T_bipush (v := (nI 9)) (pc1 := 36) (pc := 34) k_M_isAsLast_34 rfl (by decide) ?_
          | refine T_ialdN (pc1 := 37) (pc := 36) k_M_isAsLast_36 rfl (by first | exact ga G (by decide) rfl | assumption) (by omega) (by omega) (by first | assumption | (simp (disch := omega) only [pI_eq, pI_row, pI_col, va_up_self, va_up_ne, ne_eq, not_false_eq_true, hJN, hn] <;> rfl) | rfl) ?_
          | refine T_iald (pc1 := 37) (pc := 36) k_M_isAsLast_36 rfl (by first | exact ga G (by decide) rfl | assumption) (by assumption) ?_
          | (with_reducible refine T_icmp_geN (tgt := 54) (pc1 := 40) (pc := 37) k_M_isAsLast_37 (by decide) (by decide) (by omega) (by omega) (fun hc => ?_) (fun hc => ?_) <;> first | (exfalso; omega) | skip)
          | refine T_icmp_ge_t (tgt := 54) (pc := 37) k_M_isAsLast_37 rfl (by decide) ?_
          | refine T_icmp_ge_f (tgt := 54) (pc1 := 40) (pc := 37) k_M_isAsLast_37 rfl rfl (by decide) ?_
          | refine T_icmp_ge (tgt := 54) (pc1 := 40) (pc := 37) k_M_isAsLast_37 rfl rfl (fun hc => ?_) (fun hc => ?_)
          | refine T_aload_n (pc1 := 41) (pc := 40) k_M_isAsLast_40 rfl rfl ?_
          | refine T_aload_nN (pc1 := 41) (pc := 40) k_M_isAsLast_40 rfl rfl ?_
          | refine T_getR (pc1 := 44) (pc := 41) k_M_isAsLast_41 rfl f_M_9 rfl (by first | exact ga G (by decide) rfl | assumption) (by first | exact gr G (by decide) rfl | assumption) ?_
          | refine T_bipush (v := (nI 96)) (pc1 := 46) (pc := 44) k_M_isAsLast_44 rfl (by decide) ?_
          | refine T_iload_n (pc1 := 47) (pc := 46) k_M_isAsLast_46 rfl rfl ?_
          | with_reducible refine T_iaddN (pc1 := 48) (pc := 47) k_M_isAsLast_47 (by decide) ?_
          | refine T_iadd (pc1 := 48) (pc := 47) k_M_isAsLast_47 rfl ?_
          | refine T_iconst (v := (nI 2)) (pc1 := 49) (pc := 48) k_M_isAsLast_48 rfl (by decide) ?_
          | with_reducible refine T_isubN (pc1 := 50) (pc := 49) k_M_isAsLast_49 (by decide) (by omega) ?_
          | refine T_isub (pc1 := 50) (pc := 49) k_M_isAsLast_49 rfl ?_
          | refine T_ialdN (pc1 := 51) (pc := 50) k_M_isAsLast_50 rfl (by first | exact ga G (by decide) rfl | assumption) (by omega) (by omega) (by first | assumption | (simp (disch := omega) only [pI_eq, pI_row, pI_col, va_up_self, va_up_ne, ne_eq, not_false_eq_true, hJN, hn] <;> rfl) | rfl) ?_
          | refine T_iald (pc1 := 51) (pc := 50) k_M_isAsLast_50 rfl (by first | exact ga G (by decide) rfl | assumption) (by assumption) ?_
          | refine T_goto (tgt := 55) (pc := 51) k_M_isAsLast_51 rfl ?_
          | refine T_iconst (v := (-1)) (pc1 := 55) (pc := 54) k_M_isAsLast_54 rfl (by decide) ?_
          | refine T_istore_n (pc1 := 56) (pc := 55) k_M_isAsLast_55 rfl (Nat.le_of_ble_eq_true rfl) ?_
          | refine T_iload_n (pc1 := 57) (pc := 56) k_M_isAsLast_56 rfl rfl ?_
          | (with_reducible refine T_if_eqN (tgt := 74) (pc1 := 60) (pc := 57) k_M_isAsLast_57 (by decide) (by decide) (by omega) (fun hc => ?_) (fun hc => ?_) <;> first | (exfalso; omega) | skip)
          | refine T_if_eq_t (tgt := 74) (pc := 57) k_M_isAsLast_57 rfl (by decide) ?_
          | refine T_if_eq_f (tgt := 74) (pc1 := 60) (pc := 57) k_M_isAsLast_57 rfl rfl (by decide) ?_
          | refine T_if_eq (tgt := 74) (pc1 := 60) (pc := 57) k_M_isAsLast_57 rfl rfl (fun hc => ?_) (fun hc => ?_)
          | refine T_aload_n (pc1 := 61) (pc := 60) k_M_isAsLast_60 rfl rfl ?_
          | refine T_aload_nN (pc1 := 61) (pc := 60) k_M_isAsLast_60 rfl rfl ?_
          | refine T_getR (pc1 := 64) (pc := 61) k_M_isAsLast_61 rfl f_M_25 rfl (by first | exact ga G (by decide) rfl | assumption) (by first | exact gr G (by decide) rfl | assumption) ?_
          | refine T_iload_n (pc1 := 65) (pc := 64) k_M_isAsLast_64 rfl rfl ?_
          | refine T_ialdN (pc1 := 66) (pc := 65) k_M_isAsLast_65 rfl (by first | exact ga G (by decide) rfl | assumption) (by omega) (by omega) (by first | assumption | (simp (disch := omega) only [pI_eq, pI_row, pI_col, va_up_self, va_up_ne, ne_eq, not_false_eq_true, hJN, hn] <;> rfl) | rfl) ?_
          | refine T_iald (pc1 := 66) (pc := 65) k_M_isAsLast_65 rfl (by first | exact ga G (by decide) rfl | assumption) (by assumption) ?_
          | refine T_iload_n (pc1 := 67) (pc := 66) k_M_isAsLast_66 rfl rfl ?_
          | (with_reducible refine T_icmp_neN (tgt := 74) (pc1 := 70) (pc := 67) k_M_isAsLast_67 (by decide) (by decide) (by omega) (by omega) (fun hc => ?_) (fun hc => ?_) <;> first | (exfalso; omega) | skip)
          | refine T_icmp_ne_t (tgt := 74) (pc := 67) k_M_isAsLast_67 rfl (by decide) ?_
          | refine T_icmp_ne_f (tgt := 74) (pc1 := 70) (pc := 67) k_M_isAsLast_67 rfl rfl (by decide) ?_
          | refine T_icmp_ne (tgt := 74) (pc1 := 70) (pc := 67) k_M_isAsLast_67 rfl rfl (fun hc => ?_) (fun hc => ?_)
          | refine T_iconst (v := (nI 1)) (pc1 := 71) (pc := 70) k_M_isAsLast_70 rfl (by decide) ?_
          | refine T_goto (tgt := 75) (pc := 71) k_M_isAsLast_71 rfl ?_
          | refine T_iconst (v := (nI 0)) (pc1 := 75) (pc := 74) k_M_isAsLast_74 rfl (by decide) ?_
          | refine T_istore_n (pc1 := 76) (pc := 75) k_M_isAsLast_75 rfl (Nat.le_of_ble_eq_true rfl) ?_
          | refine T_aload_n (pc1 := 77) (pc := 76) k_M_isAsLast_76 rfl rfl ?_
          | refine T_aload_nN (pc1 := 77) (pc := 76) k_M_isAsLast_76 rfl rfl ?_
          | refine T_getR (pc1 := 80) (pc := 77) k_M_isAsLast_77 rfl f_M_25 rfl (by first | exact ga G (by decide) rfl | assumption) (by first | exact gr G (by decide) rfl | assumption) ?_
          | refine T_iload_n (pc1 := 81) (pc := 80) k_M_isAsLast_80 rfl rfl ?_
          | refine T_iload_n (pc1 := 82) (pc := 81) k_M_isAsLast_81 rfl rfl ?_
          | refine T_iastN (pc1 := 83) (pc := 82) k_M_isAsLast_82 rfl (by first | exact ga G (by decide) rfl | assumption) (by omega) (by omega) ?_
          | refine T_iincN (b := 1) (pc1 := 86) (pc := 83) k_M_isAsLast_83 rfl rfl (by decide) ?_
          | refine T_iinc (v := (nI 1)) (pc1 := 86) (pc := 83) k_M_isAsLast_83 rfl rfl (by decide) ?_
          | refine T_goto (tgt := 4) (pc := 86) k_M_isAsLast_86 rfl ?_
          | refine T_iload_n (pc1 := 90) (pc := 89) k_M_isAsLast_89 rfl rfl ?_
          | refine T_retI (pc := 90) k_M_isAsLast_90 rfl (by first | rfl | decide | assumption) ?_)
        exact kk
    | succ q ih =>
      intro k o3 f J hk hJ hv hv2 hf
      have hJN : J 102 = N := (hJ 102 (by decide)).trans hN
      have nx : ∀ (f2 : Bool) v o, v = vr N k → (f2 = true ↔ f = true ∧ I 107 k = v) → Rl 1 M_M_isAsLast 4 [some (.ref 101), some (.int (nI (if f2 = true then 1 else 0))), some (.int (nI (k + 1))), o] [] g (pI J 107 k v) K := by
        intro f2 v o h1 h2
        refine ih (k + 1) _ f2 _ (by omega) (eqx_pI hJ _ (by decide)) (fun j hj => ?_) (fun j hj => ?_) ?_
        · rw [pI_self]
          by_cases h : j = k
          · subst h; rw [va_up_self]; exact h1
          · rw [va_up_ne _ _ h]; exact hv j (by omega)
        · rw [pI_self, va_up_ne _ _ (by omega)]; exact hv2 j (by omega)
        · rw [h2, hf, h1]
          constructor
          · intro ⟨a, b⟩ j hj
            by_cases h : j = k
            · subst h; exact b
            · exact a j (by omega)
          · intro a
            exact ⟨fun j hj => a j (by omega), a k (by omega)⟩
      have eL := hv2 k (Nat.le_refl _)
      have fin : ∀ v o3, v = vr N k → Rl 1 M_M_isAsLast 55 [some (.ref 101), some (.int (nI (if f = true then 1 else 0))), some (.int (nI k)), o3] [.int v] g J K := by
        intro v o3 hvv
        cases f with
        | true =>
          repeat' (first
            | refine T_iconst (v := (nI 1)) (pc1 := 1) (pc := 0) k_M_isAsLast_0 rfl (by decide) ?_
            | refine T_istore_n (pc1 := 2) (pc := 1) k_M_isAsLast_1 rfl (Nat.le_of_ble_eq_true rfl) ?_
            | refine T_iconst (v := (nI 0)) (pc1 := 3) (pc := 2) k_M_isAsLast_2 rfl (by decide) ?_
            | refine T_istore_n (pc1 := 4) (pc := 3) k_M_isAsLast_3 rfl (Nat.le_of_ble_eq_true rfl) ?_
            | refine T_bipush (v := (nI 62)) (pc1 := 7) (pc := 5) k_M_isAsLast_5 rfl (by decide) ?_
            | (with_reducible refine T_icmp_geN (tgt := 89) (pc1 := 10) (pc := 7) k_M_isAsLast_7 (by decide) (by decide) (by omega) (by omega) (fun hc => ?_) (fun hc => ?_) <;> first | (exfalso; omega) | skip)
            | refine T_icmp_ge_t (tgt := 89) (pc := 7) k_M_isAsLast_7 rfl (by decide) ?_
            | refine T_icmp_ge_f (tgt := 89) (pc1 := 10) (pc := 7) k_M_isAsLast_7 rfl rfl (by decide) ?_
            | refine T_icmp_ge (tgt := 89) (pc1 := 10) (pc := 7) k_M_isAsLast_7 rfl rfl (fun hc => ?_) (fun hc => ?_)
            | refine T_iload_n (pc1 := 11) (pc := 10) k_M_isAsLast_10 rfl rfl ?_
            | refine T_iconst (v := (nI 2)) (pc1 := 12) (pc := 11) k_M_isAsLast_11 rfl (by decide) ?_
            | (with_reducible refine T_icmp_geN (tgt := 27) (pc1 := 15) (pc := 12) k_M_isAsLast_12 (by decide) (by decide) (by omega) (by omega) (fun hc => ?_) (fun hc => ?_) <;> first | (exfalso; omega) | skip)
            | refine T_icmp_ge_t (tgt := 27) (pc := 12) k_M_isAsLast_12 rfl (by decide) ?_
            | refine T_icmp_ge_f (tgt := 27) (pc1 := 15) (pc := 12) k_M_isAsLast_12 rfl rfl (by decide) ?_
            | refine T_icmp_ge (tgt := 27) (pc1 := 15) (pc := 12) k_M_isAsLast_12 rfl rfl (fun hc => ?_) (fun hc => ?_)
            | refine T_aload_n (pc1 := 16) (pc := 15) k_M_isAsLast_15 rfl rfl ?_
            | refine T_aload_nN (pc1 := 16) (pc := 15) k_M_isAsLast_15 rfl rfl ?_
            | refine T_getR (pc1 := 19) (pc := 16) k_M_isAsLast_16 rfl f_M_9 rfl (by first | exact ga G (by decide) rfl | assumption) (by first | exact gr G (by decide) rfl | assumption) ?_
            | refine T_bipush (v := (nI 8)) (pc1 := 21) (pc := 19) k_M_isAsLast_19 rfl (by decide) ?_
            | refine T_iload_n (pc1 := 22) (pc := 21) k_M_isAsLast_21 rfl rfl ?_
            | with_reducible refine T_iaddN (pc1 := 23) (pc := 22) k_M_isAsLast_22 (by decide) ?_
            | refine T_iadd (pc1 := 23) (pc := 22) k_M_isAsLast_22 rfl ?_
            | refine T_ialdN (pc1 := 24) (pc := 23) k_M_isAsLast_23 rfl (by first | exact ga G (by decide) rfl | assumption) (by omega) (by omega) (by first | assumption | (simp (disch := omega) only [pI_eq, pI_row, pI_col, va_up_self, va_up_ne, ne_eq, not_false_eq_true, hJN, hn] <;> rfl) | rfl) ?_
            | refine T_iald (pc1 := 24) (pc := 23) k_M_isAsLast_23 rfl (by first | exact ga G (by decide) rfl | assumption) (by assumption) ?_
            | refine T_goto (tgt := 55) (pc := 24) k_M_isAsLast_24 rfl ?_
            | refine T_iload_n (pc1 := 28) (pc := 27) k_M_isAsLast_27 rfl rfl ?_
            | refine T_iconst (v := (nI 2)) (pc1 := 29) (pc := 28) k_M_isAsLast_28 rfl (by decide) ?_
            | with_reducible refine T_isubN (pc1 := 30) (pc := 29) k_M_isAsLast_29 (by decide) (by omega) ?_
            | refine T_isub (pc1 := 30) (pc := 29) k_M_isAsLast_29 rfl ?_
            | refine T_aload_n (pc1 := 31) (pc := 30) k_M_isAsLast_30 rfl rfl ?_
            | refine T_aload_nN (pc1 := 31) (pc := 30) k_M_isAsLast_30 rfl rfl ?_
            | refine T_getR (pc1 := 34) (pc := 31) k_M_isAsLast_31 rfl f_M_9 rfl (by first | exact ga G (by decide) rfl | assumption) (by first | exact gr G (by decide) rfl | assumption) ?_
            | refine T_bipush (v := (nI 9)) (pc1 := 36) (pc := 34) k_M_isAsLast_34 rfl (by decide) ?_
            | refine T_ialdN (pc1 := 37) (pc := 36) k_M_isAsLast_36 rfl (by first | exact ga G (by decide) rfl | assumption) (by omega) (by omega) (by first | assumption | (simp (disch := omega) only [pI_eq, pI_row, pI_col, va_up_self, va_up_ne, ne_eq, not_false_eq_true, hJN, hn] <;> rfl) | rfl) ?_
            | refine T_iald (pc1 := 37) (pc := 36) k_M_isAsLast_36 rfl (by first | exact ga G (by decide) rfl | assumption) (by assumption) ?_
            | (with_reducible refine T_icmp_geN (tgt := 54) (pc1 := 40) (pc := 37) k_M_isAsLast_37 (by decide) (by decide) (by omega) (by omega) (fun hc => ?_) (fun hc => ?_) <;> first | (exfalso; omega) | skip)
            | refine T_icmp_ge_t (tgt := 54) (pc := 37) k_M_isAsLast_37 rfl (by decide) ?_
            | refine T_icmp_ge_f (tgt := 54) (pc1 := 40) (pc := 37) k_M_isAsLast_37 rfl rfl (by decide) ?_
            | refine T_icmp_ge (tgt := 54) (pc1 := 40) (pc := 37) k_M_isAsLast_37 rfl rfl (fun hc => ?_) (fun hc => ?_)
            | refine T_aload_n (pc1 := 41) (pc := 40) k_M_isAsLast_40 rfl rfl ?_
            | refine T_aload_nN (pc1 := 41) (pc := 40) k_M_isAsLast_40 rfl rfl ?_
            | refine T_getR (pc1 := 44) (pc := 41) k_M_isAsLast_41 rfl f_M_9 rfl (by first | exact ga G (by decide) rfl | assumption) (by first | exact gr G (by decide) rfl | assumption) ?_
            | refine T_bipush (v := (nI 96)) (pc1 := 46) (pc := 44) k_M_isAsLast_44 rfl (by decide) ?_
            | refine T_iload_n (pc1 := 47) (pc := 46) k_M_isAsLast_46 rfl rfl ?_
            | with_reducible refine T_iaddN (pc1 := 48) (pc := 47) k_M_isAsLast_47 (by decide) ?_
            | refine T_iadd (pc1 := 48) (pc := 47) k_M_isAsLast_47 rfl ?_
            | refine T_iconst (v := (nI 2)) (pc1 := 49) (pc := 48) k_M_isAsLast_48 rfl (by decide) ?_
            | with_reducible refine T_isubN (pc1 := 50) (pc := 49) k_M_isAsLast_49 (by decide) (by omega) ?_
            | refine T_isub (pc1 := 50) (pc := 49) k_M_isAsLast_49 rfl ?_
            | refine T_ialdN (pc1 := 51) (pc := 50) k_M_isAsLast_50 rfl (by first | exact ga G (by decide) rfl | assumption) (by omega) (by omega) (by first | assumption | (simp (disch := omega) only [pI_eq, pI_row, pI_col, va_up_self, va_up_ne, ne_eq, not_false_eq_true, hJN, hn] <;> rfl) | rfl) ?_
            | refine T_iald (pc1 := 51) (pc := 50) k_M_isAsLast_50 rfl (by first | exact ga G (by decide) rfl | assumption) (by assumption) ?_
            | refine T_goto (tgt := 55) (pc := 51) k_M_isAsLast_51 rfl ?_
            | refine T_iconst (v := (-1)) (pc1 := 55) (pc := 54) k_M_isAsLast_54 rfl (by decide) ?_
            | refine T_istore_n (pc1 := 56) (pc := 55) k_M_isAsLast_55 rfl (Nat.le_of_ble_eq_true rfl) ?_
            | refine T_iload_n (pc1 := 57) (pc := 56) k_M_isAsLast_56 rfl rfl ?_
            | (with_reducible refine T_if_eqN (tgt := 74) (pc1 := 60) (pc := 57) k_M_isAsLast_57 (by decide) (by decide) (by omega) (fun hc => ?_) (fun hc => ?_) <;> first | (exfalso; omega) | skip)
            | refine T_if_eq_t (tgt := 74) (pc := 57) k_M_isAsLast_57 rfl (by decide) ?_
            | refine T_if_eq_f (tgt := 74) (pc1 := 60) (pc := 57) k_M_isAsLast_57 rfl rfl (by decide) ?_
            | refine T_if_eq (tgt := 74) (pc1 := 60) (pc := 57) k_M_isAsLast_57 rfl rfl (fun hc => ?_) (fun hc => ?_)
            | refine T_aload_n (pc1 := 61) (pc := 60) k_M_isAsLast_60 rfl rfl ?_
            | refine T_aload_nN (pc1 := 61) (pc := 60) k_M_isAsLast_60 rfl rfl ?_
            | refine T_getR (pc1 := 64) (pc := 61) k_M_isAsLast_61 rfl f_M_25 rfl (by first | exact ga G (by decide) rfl | assumption) (by first | exact gr G (by decide) rfl | assumption) ?_
            | refine T_iload_n (pc1 := 65) (pc := 64) k_M_isAsLast_64 rfl rfl ?_
            | refine T_ialdN (pc1 := 66) (pc := 65) k_M_isAsLast_65 rfl (by first | exact ga G (by decide) rfl | assumption) (by omega) (by omega) (by first | assumption | (simp (disch := omega) only [pI_eq, pI_row, pI_col, va_up_self, va_up_ne, ne_eq, not_false_eq_true, hJN, hn] <;> rfl) | rfl) ?_
            | refine T_iald (pc1 := 66) (pc := 65) k_M_isAsLast_65 rfl (by first | exact ga G (by decide) rfl | assumption) (by assumption) ?_
            | refine T_iload_n (pc1 := 67) (pc := 66) k_M_isAsLast_66 rfl rfl ?_
            | (with_reducible refine T_icmp_neN (tgt := 74) (pc1 := 70) (pc := 67) k_M_isAsLast_67 (by decide) (by decide) (by omega) (by omega) (fun hc => ?_) (fun hc => ?_) <;> first | (exfalso; omega) | skip)
            | refine T_icmp_ne_t (tgt := 74) (pc := 67) k_M_isAsLast_67 rfl (by decide) ?_
            | refine T_icmp_ne_f (tgt := 74) (pc1 := 70) (pc := 67) k_M_isAsLast_67 rfl rfl (by decide) ?_
            | refine T_icmp_ne (tgt := 74) (pc1 := 70) (pc := 67) k_M_isAsLast_67 rfl rfl (fun hc => ?_) (fun hc => ?_)
            | refine T_iconst (v := (nI 1)) (pc1 := 71) (pc := 70) k_M_isAsLast_70 rfl (by decide) ?_
            | refine T_goto (tgt := 75) (pc := 71) k_M_isAsLast_71 rfl ?_
            | refine T_iconst (v := (nI 0)) (pc1 := 75) (pc := 74) k_M_isAsLast_74 rfl (by decide) ?_
            | refine T_istore_n (pc1 := 76) (pc := 75) k_M_isAsLast_75 rfl (Nat.le_of_ble_eq_true rfl) ?_
            | refine T_aload_n (pc1 := 77) (pc := 76) k_M_isAsLast_76 rfl rfl ?_
            | refine T_aload_nN (pc1 := 77) (pc := 76) k_M_isAsLast_76 rfl rfl ?_
            | refine T_getR (pc1 := 80) (pc := 77) k_M_isAsLast_77 rfl f_M_25 rfl (by first | exact ga G (by decide) rfl | assumption) (by first | exact gr G (by decide) rfl | assumption) ?_
            | refine T_iload_n (pc1 := 81) (pc := 80) k_M_isAsLast_80 rfl rfl ?_
            | refine T_iload_n (pc1 := 82) (pc := 81) k_M_isAsLast_81 rfl rfl ?_
            | refine T_iastN (pc1 := 83) (pc := 82) k_M_isAsLast_82 rfl (by first | exact ga G (by decide) rfl | assumption) (by omega) (by omega) ?_
            | refine T_iincN (b := 1) (pc1 := 86) (pc := 83) k_M_isAsLast_83 rfl rfl (by decide) ?_
            | refine T_iinc (v := (nI 1)) (pc1 := 86) (pc := 83) k_M_isAsLast_83 rfl rfl (by decide) ?_
            | refine T_goto (tgt := 4) (pc := 86) k_M_isAsLast_86 rfl ?_
            | refine T_iload_n (pc1 := 90) (pc := 89) k_M_isAsLast_89 rfl rfl ?_
            | refine T_retI (pc := 90) k_M_isAsLast_90 rfl (by first | rfl | decide | assumption) ?_)
          · exact nx false _ _ hvv (Iff.intro (fun q => nomatch q) (fun q => absurd q.2 (by assumption)))
          · exact nx true _ _ hvv ⟨fun _ => ⟨rfl, Decidable.not_not.mp (by assumption)⟩, fun _ => rfl⟩
        | false =>
          repeat' (first
            | refine T_iconst (v := (nI 1)) (pc1 := 1) (pc := 0) k_M_isAsLast_0 rfl (by decide) ?_
            | refine T_istore_n (pc1 := 2) (pc := 1) k_M_isAsLast_1 rfl (Nat.le_of_ble_eq_true rfl) ?_
            | refine T_iconst (v := (nI 0)) (pc1 := 3) (pc := 2) k_M_isAsLast_2 rfl (by decide) ?_
            | refine T_istore_n (pc1 := 4) (pc := 3) k_M_isAsLast_3 rfl (Nat.le_of_ble_eq_true rfl) ?_
            | refine T_bipush (v := (nI 62)) (pc1 := 7) (pc := 5) k_M_isAsLast_5 rfl (by decide) ?_
            | (with_reducible refine T_icmp_geN (tgt := 89) (pc1 := 10) (pc := 7) k_M_isAsLast_7 (by decide) (by decide) (by omega) (by omega) (fun hc => ?_) (fun hc => ?_) <;> first | (exfalso; omega) | skip)
            | refine T_icmp_ge_t (tgt := 89) (pc := 7) k_M_isAsLast_7 rfl (by decide) ?_
            | refine T_icmp_ge_f (tgt := 89) (pc1 := 10) (pc := 7) k_M_isAsLast_7 rfl rfl (by decide) ?_
            | refine T_icmp_ge (tgt := 89) (pc1 := 10) (pc := 7) k_M_isAsLast_7 rfl rfl (fun hc => ?_) (fun hc => ?_)
            | refine T_iload_n (pc1 := 11) (pc := 10) k_M_isAsLast_10 rfl rfl ?_
            | refine T_iconst (v := (nI 2)) (pc1 := 12) (pc := 11) k_M_isAsLast_11 rfl (by decide) ?_
            | (with_reducible refine T_icmp_geN (tgt := 27) (pc1 := 15) (pc := 12) k_M_isAsLast_12 (by decide) (by decide) (by omega) (by omega) (fun hc => ?_) (fun hc => ?_) <;> first | (exfalso; omega) | skip)
            | refine T_icmp_ge_t (tgt := 27) (pc := 12) k_M_isAsLast_12 rfl (by decide) ?_
            | refine T_icmp_ge_f (tgt := 27) (pc1 := 15) (pc := 12) k_M_isAsLast_12 rfl rfl (by decide) ?_
            | refine T_icmp_ge (tgt := 27) (pc1 := 15) (pc := 12) k_M_isAsLast_12 rfl rfl (fun hc => ?_) (fun hc => ?_)
            | refine T_aload_n (pc1 := 16) (pc := 15) k_M_isAsLast_15 rfl rfl ?_
            | refine T_aload_nN (pc1 := 16) (pc := 15) k_M_isAsLast_15 rfl rfl ?_
            | refine T_getR (pc1 := 19) (pc := 16) k_M_isAsLast_16 rfl f_M_9 rfl (by first | exact ga G (by decide) rfl | assumption) (by first | exact gr G (by decide) rfl | assumption) ?_
            | refine T_bipush (v := (nI 8)) (pc1 := 21) (pc := 19) k_M_isAsLast_19 rfl (by decide) ?_
            | refine T_iload_n (pc1 := 22) (pc := 21) k_M_isAsLast_21 rfl rfl ?_
            | with_reducible refine T_iaddN (pc1 := 23) (pc := 22) k_M_isAsLast_22 (by decide) ?_
            | refine T_iadd (pc1 := 23) (pc := 22) k_M_isAsLast_22 rfl ?_
            | refine T_ialdN (pc1 := 24) (pc := 23) k_M_isAsLast_23 rfl (by first | exact ga G (by decide) rfl | assumption) (by omega) (by omega) (by first | assumption | (simp (disch := omega) only [pI_eq, pI_row, pI_col, va_up_self, va_up_ne, ne_eq, not_false_eq_true, hJN, hn] <;> rfl) | rfl) ?_
            | refine T_iald (pc1 := 24) (pc := 23) k_M_isAsLast_23 rfl (by first | exact ga G (by decide) rfl | assumption) (by assumption) ?_
            | refine T_goto (tgt := 55) (pc := 24) k_M_isAsLast_24 rfl ?_
            | refine T_iload_n (pc1 := 28) (pc := 27) k_M_isAsLast_27 rfl rfl ?_
            | refine T_iconst (v := (nI 2)) (pc1 := 29) (pc := 28) k_M_isAsLast_28 rfl (by decide) ?_
            | with_reducible refine T_isubN (pc1 := 30) (pc := 29) k_M_isAsLast_29 (by decide) (by omega) ?_
            | refine T_isub (pc1 := 30) (pc := 29) k_M_isAsLast_29 rfl ?_
            | refine T_aload_n (pc1 := 31) (pc := 30) k_M_isAsLast_30 rfl rfl ?_
            | refine T_aload_nN (pc1 := 31) (pc := 30) k_M_isAsLast_30 rfl rfl ?_
            | refine T_getR (pc1 := 34) (pc := 31) k_M_isAsLast_31 rfl f_M_9 rfl (by first | exact ga G (by decide) rfl | assumption) (by first | exact gr G (by decide) rfl | assumption) ?_
            | refine T_bipush (v := (nI 9)) (pc1 := 36) (pc := 34) k_M_isAsLast_34 rfl (by decide) ?_
            | refine T_ialdN (pc1 := 37) (pc := 36) k_M_isAsLast_36 rfl (by first | exact ga G (by decide) rfl | assumption) (by omega) (by omega) (by first | assumption | (simp (disch := omega) only [pI_eq, pI_row, pI_col, va_up_self, va_up_ne, ne_eq, not_false_eq_true, hJN, hn] <;> rfl) | rfl) ?_
            | refine T_iald (pc1 := 37) (pc := 36) k_M_isAsLast_36 rfl (by first | exact ga G (by decide) rfl | assumption) (by assumption) ?_
            | (with_reducible refine T_icmp_geN (tgt := 54) (pc1 := 40) (pc := 37) k_M_isAsLast_37 (by decide) (by decide) (by omega) (by omega) (fun hc => ?_) (fun hc => ?_) <;> first | (exfalso; omega) | skip)
            | refine T_icmp_ge_t (tgt := 54) (pc := 37) k_M_isAsLast_37 rfl (by decide) ?_
            | refine T_icmp_ge_f (tgt := 54) (pc1 := 40) (pc := 37) k_M_isAsLast_37 rfl rfl (by decide) ?_
            | refine T_icmp_ge (tgt := 54) (pc1 := 40) (pc := 37) k_M_isAsLast_37 rfl rfl (fun hc => ?_) (fun hc => ?_)
            | refine T_aload_n (pc1 := 41) (pc := 40) k_M_isAsLast_40 rfl rfl ?_
            | refine T_aload_nN (pc1 := 41) (pc := 40) k_M_isAsLast_40 rfl rfl ?_
            | refine T_getR (pc1 := 44) (pc := 41) k_M_isAsLast_41 rfl f_M_9 rfl (by first | exact ga G (by decide) rfl | assumption) (by first | exact gr G (by decide) rfl | assumption) ?_
            | refine T_bipush (v := (nI 96)) (pc1 := 46) (pc := 44) k_M_isAsLast_44 rfl (by decide) ?_
            | refine T_iload_n (pc1 := 47) (pc := 46) k_M_isAsLast_46 rfl rfl ?_
            | with_reducible refine T_iaddN (pc1 := 48) (pc := 47) k_M_isAsLast_47 (by decide) ?_
            | refine T_iadd (pc1 := 48) (pc := 47) k_M_isAsLast_47 rfl ?_
            | refine T_iconst (v := (nI 2)) (pc1 := 49) (pc := 48) k_M_isAsLast_48 rfl (by decide) ?_
            | with_reducible refine T_isubN (pc1 := 50) (pc := 49) k_M_isAsLast_49 (by decide) (by omega) ?_
            | refine T_isub (pc1 := 50) (pc := 49) k_M_isAsLast_49 rfl ?_
            | refine T_ialdN (pc1 := 51) (pc := 50) k_M_isAsLast_50 rfl (by first | exact ga G (by decide) rfl | assumption) (by omega) (by omega) (by first | assumption | (simp (disch := omega) only [pI_eq, pI_row, pI_col, va_up_self, va_up_ne, ne_eq, not_false_eq_true, hJN, hn] <;> rfl) | rfl) ?_
            | refine T_iald (pc1 := 51) (pc := 50) k_M_isAsLast_50 rfl (by first | exact ga G (by decide) rfl | assumption) (by assumption) ?_
            | refine T_goto (tgt := 55) (pc := 51) k_M_isAsLast_51 rfl ?_
            | refine T_iconst (v := (-1)) (pc1 := 55) (pc := 54) k_M_isAsLast_54 rfl (by decide) ?_
            | refine T_istore_n (pc1 := 56) (pc := 55) k_M_isAsLast_55 rfl (Nat.le_of_ble_eq_true rfl) ?_
            | refine T_iload_n (pc1 := 57) (pc := 56) k_M_isAsLast_56 rfl rfl ?_
            | (with_reducible refine T_if_eqN (tgt := 74) (pc1 := 60) (pc := 57) k_M_isAsLast_57 (by decide) (by decide) (by omega) (fun hc => ?_) (fun hc => ?_) <;> first | (exfalso; omega) | skip)
            | refine T_if_eq_t (tgt := 74) (pc := 57) k_M_isAsLast_57 rfl (by decide) ?_
            | refine T_if_eq_f (tgt := 74) (pc1 := 60) (pc := 57) k_M_isAsLast_57 rfl rfl (by decide) ?_
            | refine T_if_eq (tgt := 74) (pc1 := 60) (pc := 57) k_M_isAsLast_57 rfl rfl (fun hc => ?_) (fun hc => ?_)
            | refine T_aload_n (pc1 := 61) (pc := 60) k_M_isAsLast_60 rfl rfl ?_
            | refine T_aload_nN (pc1 := 61) (pc := 60) k_M_isAsLast_60 rfl rfl ?_
            | refine T_getR (pc1 := 64) (pc := 61) k_M_isAsLast_61 rfl f_M_25 rfl (by first | exact ga G (by decide) rfl | assumption) (by first | exact gr G (by decide) rfl | assumption) ?_
            | refine T_iload_n (pc1 := 65) (pc := 64) k_M_isAsLast_64 rfl rfl ?_
            | refine T_ialdN (pc1 := 66) (pc := 65) k_M_isAsLast_65 rfl (by first | exact ga G (by decide) rfl | assumption) (by omega) (by omega) (by first | assumption | (simp (disch := omega) only [pI_eq, pI_row, pI_col, va_up_self, va_up_ne, ne_eq, not_false_eq_true, hJN, hn] <;> rfl) | rfl) ?_
            | refine T_iald (pc1 := 66) (pc := 65) k_M_isAsLast_65 rfl (by first | exact ga G (by decide) rfl | assumption) (by assumption) ?_
            | refine T_iload_n (pc1 := 67) (pc := 66) k_M_isAsLast_66 rfl rfl ?_
            | (with_reducible refine T_icmp_neN (tgt := 74) (pc1 := 70) (pc := 67) k_M_isAsLast_67 (by decide) (by decide) (by omega) (by omega) (fun hc => ?_) (fun hc => ?_) <;> first | (exfalso; omega) | skip)
            | refine T_icmp_ne_t (tgt := 74) (pc := 67) k_M_isAsLast_67 rfl (by decide) ?_
            | refine T_icmp_ne_f (tgt := 74) (pc1 := 70) (pc := 67) k_M_isAsLast_67 rfl rfl (by decide) ?_
            | refine T_icmp_ne (tgt := 74) (pc1 := 70) (pc := 67) k_M_isAsLast_67 rfl rfl (fun hc => ?_) (fun hc => ?_)
            | refine T_iconst (v := (nI 1)) (pc1 := 71) (pc := 70) k_M_isAsLast_70 rfl (by decide) ?_
            | refine T_goto (tgt := 75) (pc := 71) k_M_isAsLast_71 rfl ?_
            | refine T_iconst (v := (nI 0)) (pc1 := 75) (pc := 74) k_M_isAsLast_74 rfl (by decide) ?_
            | refine T_istore_n (pc1 := 76) (pc := 75) k_M_isAsLast_75 rfl (Nat.le_of_ble_eq_true rfl) ?_
            | refine T_aload_n (pc1 := 77) (pc := 76) k_M_isAsLast_76 rfl rfl ?_
            | refine T_aload_nN (pc1 := 77) (pc := 76) k_M_isAsLast_76 rfl rfl ?_
            | refine T_getR (pc1 := 80) (pc := 77) k_M_isAsLast_77 rfl f_M_25 rfl (by first | exact ga G (by decide) rfl | assumption) (by first | exact gr G (by decide) rfl | assumption) ?_
            | refine T_iload_n (pc1 := 81) (pc := 80) k_M_isAsLast_80 rfl rfl ?_
            | refine T_iload_n (pc1 := 82) (pc := 81) k_M_isAsLast_81 rfl rfl ?_
            | refine T_iastN (pc1 := 83) (pc := 82) k_M_isAsLast_82 rfl (by first | exact ga G (by decide) rfl | assumption) (by omega) (by omega) ?_
            | refine T_iincN (b := 1) (pc1 := 86) (pc := 83) k_M_isAsLast_83 rfl rfl (by decide) ?_
            | refine T_iinc (v := (nI 1)) (pc1 := 86) (pc := 83) k_M_isAsLast_83 rfl rfl (by decide) ?_
            | refine T_goto (tgt := 4) (pc := 86) k_M_isAsLast_86 rfl ?_
            | refine T_iload_n (pc1 := 90) (pc := 89) k_M_isAsLast_89 rfl rfl ?_
            | refine T_retI (pc := 90) k_M_isAsLast_90 rfl (by first | rfl | decide | assumption) ?_)
          exact nx false _ _ hvv (Iff.intro (fun q => nomatch q) (fun q => nomatch q.1))
      have v1 : k < 2 → J 102 (8 + k) = vr N k := fun h => by rw [hJN, vr, if_pos h]
      have v2 : ¬ k < 2 → k - 2 < tr → J 102 (96 + k - 2) = vr N k := fun h h2 => by rw [hJN, vr, if_neg h, h9, nI_clamp (by omega), if_pos h2, show 96 + k - 2 = 96 + (k - 2) by omega]
      have v3 : ¬ k < 2 → ¬ k - 2 < tr → -1 = vr N k := fun h h2 => by rw [vr, if_neg h, h9, nI_clamp (by omega), if_neg h2]
      have h9J : J 102 9 = nI tr := by rw [hJN]; exact h9
      refine T_iload_n (pc1 := 5) (pc := 4) k_M_isAsLast_4 rfl rfl ?_
      repeat' (first
        | refine T_iconst (v := (nI 1)) (pc1 := 1) (pc := 0) k_M_isAsLast_0 rfl (by decide) ?_
        | refine T_istore_n (pc1 := 2) (pc := 1) k_M_isAsLast_1 rfl (Nat.le_of_ble_eq_true rfl) ?_
        | refine T_iconst (v := (nI 0)) (pc1 := 3) (pc := 2) k_M_isAsLast_2 rfl (by decide) ?_
        | refine T_istore_n (pc1 := 4) (pc := 3) k_M_isAsLast_3 rfl (Nat.le_of_ble_eq_true rfl) ?_
        | refine T_bipush (v := (nI 62)) (pc1 := 7) (pc := 5) k_M_isAsLast_5 rfl (by decide) ?_
        | (with_reducible refine T_icmp_geN (tgt := 89) (pc1 := 10) (pc := 7) k_M_isAsLast_7 (by decide) (by decide) (by omega) (by omega) (fun hc => ?_) (fun hc => ?_) <;> first | (exfalso; omega) | skip)
        | refine T_icmp_ge_t (tgt := 89) (pc := 7) k_M_isAsLast_7 rfl (by decide) ?_
        | refine T_icmp_ge_f (tgt := 89) (pc1 := 10) (pc := 7) k_M_isAsLast_7 rfl rfl (by decide) ?_
        | refine T_icmp_ge (tgt := 89) (pc1 := 10) (pc := 7) k_M_isAsLast_7 rfl rfl (fun hc => ?_) (fun hc => ?_)
        | refine T_iload_n (pc1 := 11) (pc := 10) k_M_isAsLast_10 rfl rfl ?_
        | refine T_iconst (v := (nI 2)) (pc1 := 12) (pc := 11) k_M_isAsLast_11 rfl (by decide) ?_
        | (with_reducible refine T_icmp_geN (tgt := 27) (pc1 := 15) (pc := 12) k_M_isAsLast_12 (by decide) (by decide) (by omega) (by omega) (fun hc => ?_) (fun hc => ?_) <;> first | (exfalso; omega) | skip)
        | refine T_icmp_ge_t (tgt := 27) (pc := 12) k_M_isAsLast_12 rfl (by decide) ?_
        | refine T_icmp_ge_f (tgt := 27) (pc1 := 15) (pc := 12) k_M_isAsLast_12 rfl rfl (by decide) ?_
        | refine T_icmp_ge (tgt := 27) (pc1 := 15) (pc := 12) k_M_isAsLast_12 rfl rfl (fun hc => ?_) (fun hc => ?_)
        | refine T_aload_n (pc1 := 16) (pc := 15) k_M_isAsLast_15 rfl rfl ?_
        | refine T_aload_nN (pc1 := 16) (pc := 15) k_M_isAsLast_15 rfl rfl ?_
        | refine T_getR (pc1 := 19) (pc := 16) k_M_isAsLast_16 rfl f_M_9 rfl (by first | exact ga G (by decide) rfl | assumption) (by first | exact gr G (by decide) rfl | assumption) ?_
        | refine T_bipush (v := (nI 8)) (pc1 := 21) (pc := 19) k_M_isAsLast_19 rfl (by decide) ?_
        | refine T_iload_n (pc1 := 22) (pc := 21) k_M_isAsLast_21 rfl rfl ?_
        | with_reducible refine T_iaddN (pc1 := 23) (pc := 22) k_M_isAsLast_22 (by decide) ?_
        | refine T_iadd (pc1 := 23) (pc := 22) k_M_isAsLast_22 rfl ?_
        | refine T_ialdN (pc1 := 24) (pc := 23) k_M_isAsLast_23 rfl (by first | exact ga G (by decide) rfl | assumption) (by omega) (by omega) (by first | assumption | (simp (disch := omega) only [pI_eq, pI_row, pI_col, va_up_self, va_up_ne, ne_eq, not_false_eq_true, hJN, hn] <;> rfl) | rfl) ?_
        | refine T_iald (pc1 := 24) (pc := 23) k_M_isAsLast_23 rfl (by first | exact ga G (by decide) rfl | assumption) (by assumption) ?_
        | refine T_goto (tgt := 55) (pc := 24) k_M_isAsLast_24 rfl ?_
        | refine T_iload_n (pc1 := 28) (pc := 27) k_M_isAsLast_27 rfl rfl ?_
        | refine T_iconst (v := (nI 2)) (pc1 := 29) (pc := 28) k_M_isAsLast_28 rfl (by decide) ?_
        | with_reducible refine T_isubN (pc1 := 30) (pc := 29) k_M_isAsLast_29 (by decide) (by omega) ?_
        | refine T_isub (pc1 := 30) (pc := 29) k_M_isAsLast_29 rfl ?_
        | refine T_aload_n (pc1 := 31) (pc := 30) k_M_isAsLast_30 rfl rfl ?_
        | refine T_aload_nN (pc1 := 31) (pc := 30) k_M_isAsLast_30 rfl rfl ?_
        | refine T_getR (pc1 := 34) (pc := 31) k_M_isAsLast_31 rfl f_M_9 rfl (by first | exact ga G (by decide) rfl | assumption) (by first | exact gr G (by decide) rfl | assumption) ?_
        | refine T_bipush (v := (nI 9)) (pc1 := 36) (pc := 34) k_M_isAsLast_34 rfl (by decide) ?_
        | refine T_ialdN (pc1 := 37) (pc := 36) k_M_isAsLast_36 rfl (by first | exact ga G (by decide) rfl | assumption) (by omega) (by omega) (by first | assumption | (simp (disch := omega) only [pI_eq, pI_row, pI_col, va_up_self, va_up_ne, ne_eq, not_false_eq_true, hJN, hn] <;> rfl) | rfl) ?_
        | refine T_iald (pc1 := 37) (pc := 36) k_M_isAsLast_36 rfl (by first | exact ga G (by decide) rfl | assumption) (by assumption) ?_
        | (with_reducible refine T_icmp_geN (tgt := 54) (pc1 := 40) (pc := 37) k_M_isAsLast_37 (by decide) (by decide) (by omega) (by omega) (fun hc => ?_) (fun hc => ?_) <;> first | (exfalso; omega) | skip)
        | refine T_icmp_ge_t (tgt := 54) (pc := 37) k_M_isAsLast_37 rfl (by decide) ?_
        | refine T_icmp_ge_f (tgt := 54) (pc1 := 40) (pc := 37) k_M_isAsLast_37 rfl rfl (by decide) ?_
        | refine T_icmp_ge (tgt := 54) (pc1 := 40) (pc := 37) k_M_isAsLast_37 rfl rfl (fun hc => ?_) (fun hc => ?_)
        | refine T_aload_n (pc1 := 41) (pc := 40) k_M_isAsLast_40 rfl rfl ?_
        | refine T_aload_nN (pc1 := 41) (pc := 40) k_M_isAsLast_40 rfl rfl ?_
        | refine T_getR (pc1 := 44) (pc := 41) k_M_isAsLast_41 rfl f_M_9 rfl (by first | exact ga G (by decide) rfl | assumption) (by first | exact gr G (by decide) rfl | assumption) ?_
        | refine T_bipush (v := (nI 96)) (pc1 := 46) (pc := 44) k_M_isAsLast_44 rfl (by decide) ?_
        | refine T_iload_n (pc1 := 47) (pc := 46) k_M_isAsLast_46 rfl rfl ?_
        | with_reducible refine T_iaddN (pc1 := 48) (pc := 47) k_M_isAsLast_47 (by decide) ?_
        | refine T_iadd (pc1 := 48) (pc := 47) k_M_isAsLast_47 rfl ?_
        | refine T_iconst (v := (nI 2)) (pc1 := 49) (pc := 48) k_M_isAsLast_48 rfl (by decide) ?_
        | with_reducible refine T_isubN (pc1 := 50) (pc := 49) k_M_isAsLast_49 (by decide) (by omega) ?_
        | refine T_isub (pc1 := 50) (pc := 49) k_M_isAsLast_49 rfl ?_
        | refine T_ialdN (pc1 := 51) (pc := 50) k_M_isAsLast_50 rfl (by first | exact ga G (by decide) rfl | assumption) (by omega) (by omega) (by first | assumption | (simp (disch := omega) only [pI_eq, pI_row, pI_col, va_up_self, va_up_ne, ne_eq, not_false_eq_true, hJN, hn] <;> rfl) | rfl) ?_
        | refine T_iald (pc1 := 51) (pc := 50) k_M_isAsLast_50 rfl (by first | exact ga G (by decide) rfl | assumption) (by assumption) ?_
        | refine T_goto (tgt := 55) (pc := 51) k_M_isAsLast_51 rfl ?_
        | refine T_iconst (v := (-1)) (pc1 := 55) (pc := 54) k_M_isAsLast_54 rfl (by decide) ?_
        | refine T_iload_n (pc1 := 57) (pc := 56) k_M_isAsLast_56 rfl rfl ?_
        | (with_reducible refine T_if_eqN (tgt := 74) (pc1 := 60) (pc := 57) k_M_isAsLast_57 (by decide) (by decide) (by omega) (fun hc => ?_) (fun hc => ?_) <;> first | (exfalso; omega) | skip)
        | refine T_if_eq_t (tgt := 74) (pc := 57) k_M_isAsLast_57 rfl (by decide) ?_
        | refine T_if_eq_f (tgt := 74) (pc1 := 60) (pc := 57) k_M_isAsLast_57 rfl rfl (by decide) ?_
        | refine T_if_eq (tgt := 74) (pc1 := 60) (pc := 57) k_M_isAsLast_57 rfl rfl (fun hc => ?_) (fun hc => ?_)
        | refine T_aload_n (pc1 := 61) (pc := 60) k_M_isAsLast_60 rfl rfl ?_
        | refine T_aload_nN (pc1 := 61) (pc := 60) k_M_isAsLast_60 rfl rfl ?_
        | refine T_getR (pc1 := 64) (pc := 61) k_M_isAsLast_61 rfl f_M_25 rfl (by first | exact ga G (by decide) rfl | assumption) (by first | exact gr G (by decide) rfl | assumption) ?_
        | refine T_iload_n (pc1 := 65) (pc := 64) k_M_isAsLast_64 rfl rfl ?_
        | refine T_ialdN (pc1 := 66) (pc := 65) k_M_isAsLast_65 rfl (by first | exact ga G (by decide) rfl | assumption) (by omega) (by omega) (by first | assumption | (simp (disch := omega) only [pI_eq, pI_row, pI_col, va_up_self, va_up_ne, ne_eq, not_false_eq_true, hJN, hn] <;> rfl) | rfl) ?_
        | refine T_iald (pc1 := 66) (pc := 65) k_M_isAsLast_65 rfl (by first | exact ga G (by decide) rfl | assumption) (by assumption) ?_
        | refine T_iload_n (pc1 := 67) (pc := 66) k_M_isAsLast_66 rfl rfl ?_
        | (with_reducible refine T_icmp_neN (tgt := 74) (pc1 := 70) (pc := 67) k_M_isAsLast_67 (by decide) (by decide) (by omega) (by omega) (fun hc => ?_) (fun hc => ?_) <;> first | (exfalso; omega) | skip)
        | refine T_icmp_ne_t (tgt := 74) (pc := 67) k_M_isAsLast_67 rfl (by decide) ?_
        | refine T_icmp_ne_f (tgt := 74) (pc1 := 70) (pc := 67) k_M_isAsLast_67 rfl rfl (by decide) ?_
        | refine T_icmp_ne (tgt := 74) (pc1 := 70) (pc := 67) k_M_isAsLast_67 rfl rfl (fun hc => ?_) (fun hc => ?_)
        | refine T_iconst (v := (nI 1)) (pc1 := 71) (pc := 70) k_M_isAsLast_70 rfl (by decide) ?_
        | refine T_goto (tgt := 75) (pc := 71) k_M_isAsLast_71 rfl ?_
        | refine T_iconst (v := (nI 0)) (pc1 := 75) (pc := 74) k_M_isAsLast_74 rfl (by decide) ?_
        | refine T_istore_n (pc1 := 76) (pc := 75) k_M_isAsLast_75 rfl (Nat.le_of_ble_eq_true rfl) ?_
        | refine T_aload_n (pc1 := 77) (pc := 76) k_M_isAsLast_76 rfl rfl ?_
        | refine T_aload_nN (pc1 := 77) (pc := 76) k_M_isAsLast_76 rfl rfl ?_
        | refine T_getR (pc1 := 80) (pc := 77) k_M_isAsLast_77 rfl f_M_25 rfl (by first | exact ga G (by decide) rfl | assumption) (by first | exact gr G (by decide) rfl | assumption) ?_
        | refine T_iload_n (pc1 := 81) (pc := 80) k_M_isAsLast_80 rfl rfl ?_
        | refine T_iload_n (pc1 := 82) (pc := 81) k_M_isAsLast_81 rfl rfl ?_
        | refine T_iastN (pc1 := 83) (pc := 82) k_M_isAsLast_82 rfl (by first | exact ga G (by decide) rfl | assumption) (by omega) (by omega) ?_
        | refine T_iincN (b := 1) (pc1 := 86) (pc := 83) k_M_isAsLast_83 rfl rfl (by decide) ?_
        | refine T_iinc (v := (nI 1)) (pc1 := 86) (pc := 83) k_M_isAsLast_83 rfl rfl (by decide) ?_
        | refine T_goto (tgt := 4) (pc := 86) k_M_isAsLast_86 rfl ?_
        | refine T_iload_n (pc1 := 90) (pc := 89) k_M_isAsLast_89 rfl rfl ?_
        | refine T_retI (pc := 90) k_M_isAsLast_90 rfl (by first | rfl | decide | assumption) ?_)
      · exact fin _ _ (v3 (by omega) (by omega))
      · exact fin _ _ (v2 (by omega) (by omega))
      · exact fin _ _ (v1 (by omega))
  repeat' (first
    | refine T_iconst (v := (nI 1)) (pc1 := 1) (pc := 0) k_M_isAsLast_0 rfl (by decide) ?_
    | refine T_istore_n (pc1 := 2) (pc := 1) k_M_isAsLast_1 rfl (Nat.le_of_ble_eq_true rfl) ?_
    | refine T_iconst (v := (nI 0)) (pc1 := 3) (pc := 2) k_M_isAsLast_2 rfl (by decide) ?_
    | refine T_istore_n (pc1 := 4) (pc := 3) k_M_isAsLast_3 rfl (Nat.le_of_ble_eq_true rfl) ?_
    | refine T_bipush (v := (nI 62)) (pc1 := 7) (pc := 5) k_M_isAsLast_5 rfl (by decide) ?_
    | (with_reducible refine T_icmp_geN (tgt := 89) (pc1 := 10) (pc := 7) k_M_isAsLast_7 (by decide) (by decide) (by omega) (by omega) (fun hc => ?_) (fun hc => ?_) <;> first | (exfalso; omega) | skip)
    | refine T_icmp_ge_t (tgt := 89) (pc := 7) k_M_isAsLast_7 rfl (by decide) ?_
    | refine T_icmp_ge_f (tgt := 89) (pc1 := 10) (pc := 7) k_M_isAsLast_7 rfl rfl (by decide) ?_
    | refine T_icmp_ge (tgt := 89) (pc1 := 10) (pc := 7) k_M_isAsLast_7 rfl rfl (fun hc => ?_) (fun hc => ?_)
    | refine T_iload_n (pc1 := 11) (pc := 10) k_M_isAsLast_10 rfl rfl ?_
    | refine T_iconst (v := (nI 2)) (pc1 := 12) (pc := 11) k_M_isAsLast_11 rfl (by decide) ?_
    | (with_reducible refine T_icmp_geN (tgt := 27) (pc1 := 15) (pc := 12) k_M_isAsLast_12 (by decide) (by decide) (by omega) (by omega) (fun hc => ?_) (fun hc => ?_) <;> first | (exfalso; omega) | skip)
    | refine T_icmp_ge_t (tgt := 27) (pc := 12) k_M_isAsLast_12 rfl (by decide) ?_
    | refine T_icmp_ge_f (tgt := 27) (pc1 := 15) (pc := 12) k_M_isAsLast_12 rfl rfl (by decide) ?_
    | refine T_icmp_ge (tgt := 27) (pc1 := 15) (pc := 12) k_M_isAsLast_12 rfl rfl (fun hc => ?_) (fun hc => ?_)
    | refine T_aload_n (pc1 := 16) (pc := 15) k_M_isAsLast_15 rfl rfl ?_
    | refine T_aload_nN (pc1 := 16) (pc := 15) k_M_isAsLast_15 rfl rfl ?_
    | refine T_getR (pc1 := 19) (pc := 16) k_M_isAsLast_16 rfl f_M_9 rfl (by first | exact ga G (by decide) rfl | assumption) (by first | exact gr G (by decide) rfl | assumption) ?_
    | refine T_bipush (v := (nI 8)) (pc1 := 21) (pc := 19) k_M_isAsLast_19 rfl (by decide) ?_
    | refine T_iload_n (pc1 := 22) (pc := 21) k_M_isAsLast_21 rfl rfl ?_
    | with_reducible refine T_iaddN (pc1 := 23) (pc := 22) k_M_isAsLast_22 (by decide) ?_
    | refine T_iadd (pc1 := 23) (pc := 22) k_M_isAsLast_22 rfl ?_
    | refine T_ialdN (pc1 := 24) (pc := 23) k_M_isAsLast_23 rfl (by first | exact ga G (by decide) rfl | assumption) (by omega) (by omega) (by first | assumption | (simp (disch := omega) only [pI_eq, pI_row, pI_col, va_up_self, va_up_ne, ne_eq, not_false_eq_true, hJN, hn] <;> rfl) | rfl) ?_
    | refine T_iald (pc1 := 24) (pc := 23) k_M_isAsLast_23 rfl (by first | exact ga G (by decide) rfl | assumption) (by assumption) ?_
    | refine T_goto (tgt := 55) (pc := 24) k_M_isAsLast_24 rfl ?_
    | refine T_iload_n (pc1 := 28) (pc := 27) k_M_isAsLast_27 rfl rfl ?_
    | refine T_iconst (v := (nI 2)) (pc1 := 29) (pc := 28) k_M_isAsLast_28 rfl (by decide) ?_
    | with_reducible refine T_isubN (pc1 := 30) (pc := 29) k_M_isAsLast_29 (by decide) (by omega) ?_
    | refine T_isub (pc1 := 30) (pc := 29) k_M_isAsLast_29 rfl ?_
    | refine T_aload_n (pc1 := 31) (pc := 30) k_M_isAsLast_30 rfl rfl ?_
    | refine T_aload_nN (pc1 := 31) (pc := 30) k_M_isAsLast_30 rfl rfl ?_
    | refine T_getR (pc1 := 34) (pc := 31) k_M_isAsLast_31 rfl f_M_9 rfl (by first | exact ga G (by decide) rfl | assumption) (by first | exact gr G (by decide) rfl | assumption) ?_
    | refine T_bipush (v := (nI 9)) (pc1 := 36) (pc := 34) k_M_isAsLast_34 rfl (by decide) ?_
    | refine T_ialdN (pc1 := 37) (pc := 36) k_M_isAsLast_36 rfl (by first | exact ga G (by decide) rfl | assumption) (by omega) (by omega) (by first | assumption | (simp (disch := omega) only [pI_eq, pI_row, pI_col, va_up_self, va_up_ne, ne_eq, not_false_eq_true, hJN, hn] <;> rfl) | rfl) ?_
    | refine T_iald (pc1 := 37) (pc := 36) k_M_isAsLast_36 rfl (by first | exact ga G (by decide) rfl | assumption) (by assumption) ?_
    | (with_reducible refine T_icmp_geN (tgt := 54) (pc1 := 40) (pc := 37) k_M_isAsLast_37 (by decide) (by decide) (by omega) (by omega) (fun hc => ?_) (fun hc => ?_) <;> first | (exfalso; omega) | skip)
    | refine T_icmp_ge_t (tgt := 54) (pc := 37) k_M_isAsLast_37 rfl (by decide) ?_
    | refine T_icmp_ge_f (tgt := 54) (pc1 := 40) (pc := 37) k_M_isAsLast_37 rfl rfl (by decide) ?_
    | refine T_icmp_ge (tgt := 54) (pc1 := 40) (pc := 37) k_M_isAsLast_37 rfl rfl (fun hc => ?_) (fun hc => ?_)
    | refine T_aload_n (pc1 := 41) (pc := 40) k_M_isAsLast_40 rfl rfl ?_
    | refine T_aload_nN (pc1 := 41) (pc := 40) k_M_isAsLast_40 rfl rfl ?_
    | refine T_getR (pc1 := 44) (pc := 41) k_M_isAsLast_41 rfl f_M_9 rfl (by first | exact ga G (by decide) rfl | assumption) (by first | exact gr G (by decide) rfl | assumption) ?_
    | refine T_bipush (v := (nI 96)) (pc1 := 46) (pc := 44) k_M_isAsLast_44 rfl (by decide) ?_
    | refine T_iload_n (pc1 := 47) (pc := 46) k_M_isAsLast_46 rfl rfl ?_
    | with_reducible refine T_iaddN (pc1 := 48) (pc := 47) k_M_isAsLast_47 (by decide) ?_
    | refine T_iadd (pc1 := 48) (pc := 47) k_M_isAsLast_47 rfl ?_
    | refine T_iconst (v := (nI 2)) (pc1 := 49) (pc := 48) k_M_isAsLast_48 rfl (by decide) ?_
    | with_reducible refine T_isubN (pc1 := 50) (pc := 49) k_M_isAsLast_49 (by decide) (by omega) ?_
    | refine T_isub (pc1 := 50) (pc := 49) k_M_isAsLast_49 rfl ?_
    | refine T_ialdN (pc1 := 51) (pc := 50) k_M_isAsLast_50 rfl (by first | exact ga G (by decide) rfl | assumption) (by omega) (by omega) (by first | assumption | (simp (disch := omega) only [pI_eq, pI_row, pI_col, va_up_self, va_up_ne, ne_eq, not_false_eq_true, hJN, hn] <;> rfl) | rfl) ?_
    | refine T_iald (pc1 := 51) (pc := 50) k_M_isAsLast_50 rfl (by first | exact ga G (by decide) rfl | assumption) (by assumption) ?_
    | refine T_goto (tgt := 55) (pc := 51) k_M_isAsLast_51 rfl ?_
    | refine T_iconst (v := (-1)) (pc1 := 55) (pc := 54) k_M_isAsLast_54 rfl (by decide) ?_
    | refine T_istore_n (pc1 := 56) (pc := 55) k_M_isAsLast_55 rfl (Nat.le_of_ble_eq_true rfl) ?_
    | refine T_iload_n (pc1 := 57) (pc := 56) k_M_isAsLast_56 rfl rfl ?_
    | (with_reducible refine T_if_eqN (tgt := 74) (pc1 := 60) (pc := 57) k_M_isAsLast_57 (by decide) (by decide) (by omega) (fun hc => ?_) (fun hc => ?_) <;> first | (exfalso; omega) | skip)
    | refine T_if_eq_t (tgt := 74) (pc := 57) k_M_isAsLast_57 rfl (by decide) ?_
    | refine T_if_eq_f (tgt := 74) (pc1 := 60) (pc := 57) k_M_isAsLast_57 rfl rfl (by decide) ?_
    | refine T_if_eq (tgt := 74) (pc1 := 60) (pc := 57) k_M_isAsLast_57 rfl rfl (fun hc => ?_) (fun hc => ?_)
    | refine T_aload_n (pc1 := 61) (pc := 60) k_M_isAsLast_60 rfl rfl ?_
    | refine T_aload_nN (pc1 := 61) (pc := 60) k_M_isAsLast_60 rfl rfl ?_
    | refine T_getR (pc1 := 64) (pc := 61) k_M_isAsLast_61 rfl f_M_25 rfl (by first | exact ga G (by decide) rfl | assumption) (by first | exact gr G (by decide) rfl | assumption) ?_
    | refine T_iload_n (pc1 := 65) (pc := 64) k_M_isAsLast_64 rfl rfl ?_
    | refine T_ialdN (pc1 := 66) (pc := 65) k_M_isAsLast_65 rfl (by first | exact ga G (by decide) rfl | assumption) (by omega) (by omega) (by first | assumption | (simp (disch := omega) only [pI_eq, pI_row, pI_col, va_up_self, va_up_ne, ne_eq, not_false_eq_true, hJN, hn] <;> rfl) | rfl) ?_
    | refine T_iald (pc1 := 66) (pc := 65) k_M_isAsLast_65 rfl (by first | exact ga G (by decide) rfl | assumption) (by assumption) ?_
    | refine T_iload_n (pc1 := 67) (pc := 66) k_M_isAsLast_66 rfl rfl ?_
    | (with_reducible refine T_icmp_neN (tgt := 74) (pc1 := 70) (pc := 67) k_M_isAsLast_67 (by decide) (by decide) (by omega) (by omega) (fun hc => ?_) (fun hc => ?_) <;> first | (exfalso; omega) | skip)
    | refine T_icmp_ne_t (tgt := 74) (pc := 67) k_M_isAsLast_67 rfl (by decide) ?_
    | refine T_icmp_ne_f (tgt := 74) (pc1 := 70) (pc := 67) k_M_isAsLast_67 rfl rfl (by decide) ?_
    | refine T_icmp_ne (tgt := 74) (pc1 := 70) (pc := 67) k_M_isAsLast_67 rfl rfl (fun hc => ?_) (fun hc => ?_)
    | refine T_iconst (v := (nI 1)) (pc1 := 71) (pc := 70) k_M_isAsLast_70 rfl (by decide) ?_
    | refine T_goto (tgt := 75) (pc := 71) k_M_isAsLast_71 rfl ?_
    | refine T_iconst (v := (nI 0)) (pc1 := 75) (pc := 74) k_M_isAsLast_74 rfl (by decide) ?_
    | refine T_istore_n (pc1 := 76) (pc := 75) k_M_isAsLast_75 rfl (Nat.le_of_ble_eq_true rfl) ?_
    | refine T_aload_n (pc1 := 77) (pc := 76) k_M_isAsLast_76 rfl rfl ?_
    | refine T_aload_nN (pc1 := 77) (pc := 76) k_M_isAsLast_76 rfl rfl ?_
    | refine T_getR (pc1 := 80) (pc := 77) k_M_isAsLast_77 rfl f_M_25 rfl (by first | exact ga G (by decide) rfl | assumption) (by first | exact gr G (by decide) rfl | assumption) ?_
    | refine T_iload_n (pc1 := 81) (pc := 80) k_M_isAsLast_80 rfl rfl ?_
    | refine T_iload_n (pc1 := 82) (pc := 81) k_M_isAsLast_81 rfl rfl ?_
    | refine T_iastN (pc1 := 83) (pc := 82) k_M_isAsLast_82 rfl (by first | exact ga G (by decide) rfl | assumption) (by omega) (by omega) ?_
    | refine T_iincN (b := 1) (pc1 := 86) (pc := 83) k_M_isAsLast_83 rfl rfl (by decide) ?_
    | refine T_iinc (v := (nI 1)) (pc1 := 86) (pc := 83) k_M_isAsLast_83 rfl rfl (by decide) ?_
    | refine T_goto (tgt := 4) (pc := 86) k_M_isAsLast_86 rfl ?_
    | refine T_iload_n (pc1 := 90) (pc := 89) k_M_isAsLast_89 rfl rfl ?_
    | refine T_retI (pc := 90) k_M_isAsLast_90 rfl (by first | rfl | decide | assumption) ?_)
  exact loop 62 0 none true I (by omega) eqx_rf (fun j hj => absurd hj (Nat.not_lt_zero _)) (fun _ _ => rfl) ⟨fun _ j hj => absurd hj (Nat.not_lt_zero _), fun _ => rfl⟩
set_option maxHeartbeats 4000000 in
theorem c_M_same {N : Row} {n tn : Nat} {f t : Int32} (G : GeoOK g) (hN : I 102 = N) (ok : okL N n tn) (kk : ∀ J r, eqx [104, 105, 106, 107, 112, 113] I J → r = sameA N n tn f t → K (some (.int r)) g J) : Cl 6 M_M_same [.ref 101, .int f, .int t] g I K := by
  show Rl 6 M_M_same 0 [some (.ref 101), some (.int f), some (.int t), none] [] g I K
  by_cases hok : rg 8 f ∧ rg 8 t
  · rw [sameA, if_pos hok] at kk
    obtain ⟨fr, hf, rfl⟩ := rg_of hok.1 (by omega)
    obtain ⟨to0, ht, rfl⟩ := rg_of hok.2 (by omega)
    rw [nI_clamp (by omega), nI_clamp (by omega)] at kk
    have fin : ∀ k v (J : IM), k ≤ 41 → v = (if 40 < k then cNONE else nI k) → v = oNo (lsq (smP N n tn fr to0) 1 40) → eqx [102, 104, 105, 106, 107, 112, 113] I J → J 104 = cpy 156 N (I 104) → (∀ k, 156 ≤ k → J 102 k = N k) → Rl 6 M_M_same 67 [some (.ref 101), some (.int (nI fr)), some (.int (nI to0)), some (.int (nI k))] [] g J K := by
      intro k v J hk h1 h2 hJ h104 hM
      repeat' (first
        | refine T_iload_n (pc1 := 1) (pc := 0) k_M_same_0 rfl rfl ?_
        | refine T_iload_n (pc1 := 2) (pc := 1) k_M_same_1 rfl rfl ?_
        | (refine T_cS (As := [_, _]) (d1 := 3) (pc1 := 5) (pc := 2) k_M_same_2 rfl (by decide) (Nat.le_of_ble_eq_true rfl) rfl o_M_areSpots l_M_107 rfl (c_M_areSpots (fun hw => ?_) (fun hw => ?_)) <;> try dsimp only [psh])
        | (with_reducible refine T_if_neN (tgt := 11) (pc1 := 8) (pc := 5) k_M_same_5 (by decide) (by decide) (by omega) (fun hc => ?_) (fun hc => ?_) <;> first | (exfalso; omega) | skip)
        | refine T_if_ne_t (tgt := 11) (pc := 5) k_M_same_5 rfl (by decide) ?_
        | refine T_if_ne_f (tgt := 11) (pc1 := 8) (pc := 5) k_M_same_5 rfl rfl (by decide) ?_
        | refine T_if_ne (tgt := 11) (pc1 := 8) (pc := 5) k_M_same_5 rfl rfl (fun hc => ?_) (fun hc => ?_)
        | refine T_ldc (v := (-1000000001)) (pc1 := 10) (pc := 8) k_M_same_8 rfl c_M_111 ?_
        | refine T_retI (pc := 10) k_M_same_10 rfl (by first | rfl | decide | assumption) ?_
        | refine T_aload_n (pc1 := 12) (pc := 11) k_M_same_11 rfl rfl ?_
        | refine T_aload_nN (pc1 := 12) (pc := 11) k_M_same_11 rfl rfl ?_
        | refine T_getR (pc1 := 15) (pc := 12) k_M_same_12 rfl f_M_9 rfl (by first | exact ga G (by decide) rfl | assumption) (by first | exact gr G (by decide) rfl | assumption) ?_
        | refine T_aload_n (pc1 := 16) (pc := 15) k_M_same_15 rfl rfl ?_
        | refine T_aload_nN (pc1 := 16) (pc := 15) k_M_same_15 rfl rfl ?_
        | refine T_getR (pc1 := 19) (pc := 16) k_M_same_16 rfl f_M_16 rfl (by first | exact ga G (by decide) rfl | assumption) (by first | exact gr G (by decide) rfl | assumption) ?_
        | refine T_sipush (v := (nI 156)) (pc1 := 22) (pc := 19) k_M_same_19 rfl (by decide) ?_
        | (refine T_cS (As := [_, _, _]) (d1 := 1) (pc1 := 25) (pc := 22) k_M_same_22 rfl (by decide) (Nat.le_of_ble_eq_true rfl) rfl o_M_copyRow l_M_91 rfl (c_M_copyRow (ga G (by decide) rfl) (ga G (by decide) rfl) (by omega) (by omega) (by omega) (by omega) (by decide) ?_) <;> try dsimp only [psh])
        | refine T_aload_n (pc1 := 26) (pc := 25) k_M_same_25 rfl rfl ?_
        | refine T_aload_nN (pc1 := 26) (pc := 25) k_M_same_25 rfl rfl ?_
        | refine T_getR (pc1 := 29) (pc := 26) k_M_same_26 rfl f_M_25 rfl (by first | exact ga G (by decide) rfl | assumption) (by first | exact gr G (by decide) rfl | assumption) ?_
        | refine T_iconst (v := (nI 0)) (pc1 := 30) (pc := 29) k_M_same_29 rfl (by decide) ?_
        | refine T_iconst (v := (-1)) (pc1 := 31) (pc := 30) k_M_same_30 rfl (by decide) ?_
        | refine T_iastN (pc1 := 32) (pc := 31) k_M_same_31 rfl (by first | exact ga G (by decide) rfl | assumption) (by omega) (by omega) ?_
        | refine T_iconst (v := (nI 0)) (pc1 := 33) (pc := 32) k_M_same_32 rfl (by decide) ?_
        | refine T_istore_n (pc1 := 34) (pc := 33) k_M_same_33 rfl (Nat.le_of_ble_eq_true rfl) ?_
        | refine T_aload_n (pc1 := 35) (pc := 34) k_M_same_34 rfl rfl ?_
        | refine T_aload_nN (pc1 := 35) (pc := 34) k_M_same_34 rfl rfl ?_
        | refine T_iload_n (pc1 := 36) (pc := 35) k_M_same_35 rfl rfl ?_
        | refine T_iload_n (pc1 := 37) (pc := 36) k_M_same_36 rfl rfl ?_
        | (refine T_cV (As := [_, _]) (d1 := 5) (pc1 := 40) (pc := 37) k_M_same_37 rfl (by decide) (Nat.le_of_ble_eq_true rfl) rfl o_M_walks l_M_174 rfl (by first | exact ga G (by decide) rfl | assumption) rfl (c_M_walks G hN ok ha hb (fun J hJ hJN => ?_)) <;> try dsimp only [psh])
        | refine T_pop (pc1 := 41) (pc := 40) k_M_same_40 rfl rfl ?_
        | refine T_aload_n (pc1 := 42) (pc := 41) k_M_same_41 rfl rfl ?_
        | refine T_aload_nN (pc1 := 42) (pc := 41) k_M_same_41 rfl rfl ?_
        | (refine T_cV (As := []) (d1 := 1) (pc1 := 45) (pc := 42) k_M_same_42 rfl (by decide) (Nat.le_of_ble_eq_true rfl) rfl o_M_isAsLast l_M_189 rfl (by first | exact ga G (by decide) rfl | assumption) rfl (c_M_isAsLast G (by assumption) (by assumption) (fun J hJ hv => ?_)) <;> try dsimp only [psh])
        | (with_reducible refine T_if_neN (tgt := 67) (pc1 := 48) (pc := 45) k_M_same_45 (by decide) (by decide) (by omega) (fun hc => ?_) (fun hc => ?_) <;> first | (exfalso; omega) | skip)
        | refine T_if_ne_t (tgt := 67) (pc := 45) k_M_same_45 rfl (by decide) ?_
        | refine T_if_ne_f (tgt := 67) (pc1 := 48) (pc := 45) k_M_same_45 rfl rfl (by decide) ?_
        | refine T_if_ne (tgt := 67) (pc1 := 48) (pc := 45) k_M_same_45 rfl rfl (fun hc => ?_) (fun hc => ?_)
        | refine T_iload_n (pc1 := 49) (pc := 48) k_M_same_48 rfl rfl ?_
        | refine T_bipush (v := (nI 40)) (pc1 := 51) (pc := 49) k_M_same_49 rfl (by decide) ?_
        | (with_reducible refine T_icmp_gtN (tgt := 67) (pc1 := 54) (pc := 51) k_M_same_51 (by decide) (by decide) (by omega) (by omega) (fun hc => ?_) (fun hc => ?_) <;> first | (exfalso; omega) | skip)
        | refine T_icmp_gt_t (tgt := 67) (pc := 51) k_M_same_51 rfl (by decide) ?_
        | refine T_icmp_gt_f (tgt := 67) (pc1 := 54) (pc := 51) k_M_same_51 rfl rfl (by decide) ?_
        | refine T_icmp_gt (tgt := 67) (pc1 := 54) (pc := 51) k_M_same_51 rfl rfl (fun hc => ?_) (fun hc => ?_)
        | refine T_aload_n (pc1 := 55) (pc := 54) k_M_same_54 rfl rfl ?_
        | refine T_aload_nN (pc1 := 55) (pc := 54) k_M_same_54 rfl rfl ?_
        | refine T_iload_n (pc1 := 56) (pc := 55) k_M_same_55 rfl rfl ?_
        | refine T_iload_n (pc1 := 57) (pc := 56) k_M_same_56 rfl rfl ?_
        | (refine T_cV (As := [_, _]) (d1 := 5) (pc1 := 60) (pc := 57) k_M_same_57 rfl (by decide) (Nat.le_of_ble_eq_true rfl) rfl o_M_walks l_M_174 rfl (by first | exact ga G (by decide) rfl | assumption) rfl (c_M_walks G hN ok ha hb (fun J hJ hJN => ?_)) <;> try dsimp only [psh])
        | refine T_pop (pc1 := 61) (pc := 60) k_M_same_60 rfl rfl ?_
        | refine T_iincN (b := 1) (pc1 := 64) (pc := 61) k_M_same_61 rfl rfl (by decide) ?_
        | refine T_iinc (v := (nI 1)) (pc1 := 64) (pc := 61) k_M_same_61 rfl rfl (by decide) ?_
        | refine T_goto (tgt := 41) (pc := 64) k_M_same_64 rfl ?_
        | refine T_aload_n (pc1 := 68) (pc := 67) k_M_same_67 rfl rfl ?_
        | refine T_aload_nN (pc1 := 68) (pc := 67) k_M_same_67 rfl rfl ?_
        | refine T_iload_n (pc1 := 69) (pc := 68) k_M_same_68 rfl rfl ?_
        | refine T_bipush (v := (nI 40)) (pc1 := 71) (pc := 69) k_M_same_69 rfl (by decide) ?_
        | (with_reducible refine T_icmp_leN (tgt := 79) (pc1 := 74) (pc := 71) k_M_same_71 (by decide) (by decide) (by omega) (by omega) (fun hc => ?_) (fun hc => ?_) <;> first | (exfalso; omega) | skip)
        | refine T_icmp_le_t (tgt := 79) (pc := 71) k_M_same_71 rfl (by decide) ?_
        | refine T_icmp_le_f (tgt := 79) (pc1 := 74) (pc := 71) k_M_same_71 rfl rfl (by decide) ?_
        | refine T_icmp_le (tgt := 79) (pc1 := 74) (pc := 71) k_M_same_71 rfl rfl (fun hc => ?_) (fun hc => ?_)
        | refine T_ldc (v := (-1000000005)) (pc1 := 76) (pc := 74) k_M_same_74 rfl c_M_103 ?_
        | refine T_goto (tgt := 80) (pc := 76) k_M_same_76 rfl ?_
        | refine T_iload_n (pc1 := 80) (pc := 79) k_M_same_79 rfl rfl ?_
        | (refine T_cV (As := [_]) (d1 := 2) (pc1 := 83) (pc := 80) k_M_same_80 rfl (by decide) (Nat.le_of_ble_eq_true rfl) rfl o_M_putBack l_M_183 rfl (by first | exact ga G (by decide) rfl | assumption) rfl (c_M_putBack G ?_) <;> try dsimp only [psh])
        | refine T_retI (pc := 83) k_M_same_83 rfl (by first | rfl | decide | assumption) ?_)
      · rw [if_neg (by omega)] at h1
        exact kk _ _ (back_eq hN hJ h104 hM) (by rw [← h2, h1])
      · rw [if_pos (by omega)] at h1
        exact kk _ _ (back_eq hN hJ h104 hM) (by rw [← h2, h1])
    have loop : ∀ q k (J : IM), k + q = 41 → 1 ≤ k → eqx [102, 104, 105, 106, 107, 112, 113] I J → J 104 = cpy 156 N (I 104) → J 102 = itN N n tn fr to0 (k + 1) → (∀ j, j < 62 → J 107 j = vr (itN N n tn fr to0 k) j) → lsq (smP N n tn fr to0) 1 40 = lsq (smP N n tn fr to0) k (41 - k) → Rl 6 M_M_same 41 [some (.ref 101), some (.int (nI fr)), some (.int (nI to0)), some (.int (nI k))] [] g J K := by
      intro q
      induction q with
      | zero =>
        intro k J hk h1 hJ h104 hJN hL hl
        have hk : k = 41 := by omega
        subst hk
        have hW := itN_okW (fr := fr) (to0 := to0) ok hf ht 41
        obtain ⟨ok1, ok2⟩ := itN_ok (fr := fr) (to0 := to0) ok hf ht 42
        have go : ∀ J2 : IM, eqx [107] J J2 → Rl 6 M_M_same 67 [some (.ref 101), some (.int (nI fr)), some (.int (nI to0)), some (.int (nI 41))] [] g J2 K := fun J2 hJ2 => fin 41 cNONE J2 (by omega) rfl (by rw [hl]; rfl) (eqx_tr hJ (eqx_mono hJ2 (by decide))) ((hJ2 104 (by decide)).trans h104) (fun k hk => by rw [hJ2 102 (by decide), hJN]; exact ok2 k hk)
        repeat' (first
          | refine T_aload_n (pc1 := 42) (pc := 41) k_M_same_41 rfl rfl ?_
          | refine T_aload_nN (pc1 := 42) (pc := 41) k_M_same_41 rfl rfl ?_
          | (refine T_cV (As := []) (d1 := 1) (pc1 := 45) (pc := 42) k_M_same_42 rfl (by decide) (Nat.le_of_ble_eq_true rfl) rfl o_M_isAsLast l_M_189 rfl (by first | exact ga G (by decide) rfl | assumption) rfl (c_M_isAsLast G hJN hW (fun J2 hJ2 hv => ?_)) <;> try dsimp only [psh]))
        cases vE (itN N n tn fr to0 (41 + 1)) (J 107)
        all_goals
          repeat' (first
            | refine T_iload_n (pc1 := 1) (pc := 0) k_M_same_0 rfl rfl ?_
            | refine T_iload_n (pc1 := 2) (pc := 1) k_M_same_1 rfl rfl ?_
            | (refine T_cS (As := [_, _]) (d1 := 3) (pc1 := 5) (pc := 2) k_M_same_2 rfl (by decide) (Nat.le_of_ble_eq_true rfl) rfl o_M_areSpots l_M_107 rfl (c_M_areSpots (fun hw => ?_) (fun hw => ?_)) <;> try dsimp only [psh])
            | (with_reducible refine T_if_neN (tgt := 11) (pc1 := 8) (pc := 5) k_M_same_5 (by decide) (by decide) (by omega) (fun hc => ?_) (fun hc => ?_) <;> first | (exfalso; omega) | skip)
            | refine T_if_ne_t (tgt := 11) (pc := 5) k_M_same_5 rfl (by decide) ?_
            | refine T_if_ne_f (tgt := 11) (pc1 := 8) (pc := 5) k_M_same_5 rfl rfl (by decide) ?_
            | refine T_if_ne (tgt := 11) (pc1 := 8) (pc := 5) k_M_same_5 rfl rfl (fun hc => ?_) (fun hc => ?_)
            | refine T_ldc (v := (-1000000001)) (pc1 := 10) (pc := 8) k_M_same_8 rfl c_M_111 ?_
            | refine T_retI (pc := 10) k_M_same_10 rfl (by first | rfl | decide | assumption) ?_
            | refine T_aload_n (pc1 := 12) (pc := 11) k_M_same_11 rfl rfl ?_
            | refine T_aload_nN (pc1 := 12) (pc := 11) k_M_same_11 rfl rfl ?_
            | refine T_getR (pc1 := 15) (pc := 12) k_M_same_12 rfl f_M_9 rfl (by first | exact ga G (by decide) rfl | assumption) (by first | exact gr G (by decide) rfl | assumption) ?_
            | refine T_aload_n (pc1 := 16) (pc := 15) k_M_same_15 rfl rfl ?_
            | refine T_aload_nN (pc1 := 16) (pc := 15) k_M_same_15 rfl rfl ?_
            | refine T_getR (pc1 := 19) (pc := 16) k_M_same_16 rfl f_M_16 rfl (by first | exact ga G (by decide) rfl | assumption) (by first | exact gr G (by decide) rfl | assumption) ?_
            | refine T_sipush (v := (nI 156)) (pc1 := 22) (pc := 19) k_M_same_19 rfl (by decide) ?_
            | (refine T_cS (As := [_, _, _]) (d1 := 1) (pc1 := 25) (pc := 22) k_M_same_22 rfl (by decide) (Nat.le_of_ble_eq_true rfl) rfl o_M_copyRow l_M_91 rfl (c_M_copyRow (ga G (by decide) rfl) (ga G (by decide) rfl) (by omega) (by omega) (by omega) (by omega) (by decide) ?_) <;> try dsimp only [psh])
            | refine T_aload_n (pc1 := 26) (pc := 25) k_M_same_25 rfl rfl ?_
            | refine T_aload_nN (pc1 := 26) (pc := 25) k_M_same_25 rfl rfl ?_
            | refine T_getR (pc1 := 29) (pc := 26) k_M_same_26 rfl f_M_25 rfl (by first | exact ga G (by decide) rfl | assumption) (by first | exact gr G (by decide) rfl | assumption) ?_
            | refine T_iconst (v := (nI 0)) (pc1 := 30) (pc := 29) k_M_same_29 rfl (by decide) ?_
            | refine T_iconst (v := (-1)) (pc1 := 31) (pc := 30) k_M_same_30 rfl (by decide) ?_
            | refine T_iastN (pc1 := 32) (pc := 31) k_M_same_31 rfl (by first | exact ga G (by decide) rfl | assumption) (by omega) (by omega) ?_
            | refine T_iconst (v := (nI 0)) (pc1 := 33) (pc := 32) k_M_same_32 rfl (by decide) ?_
            | refine T_istore_n (pc1 := 34) (pc := 33) k_M_same_33 rfl (Nat.le_of_ble_eq_true rfl) ?_
            | refine T_aload_n (pc1 := 35) (pc := 34) k_M_same_34 rfl rfl ?_
            | refine T_aload_nN (pc1 := 35) (pc := 34) k_M_same_34 rfl rfl ?_
            | refine T_iload_n (pc1 := 36) (pc := 35) k_M_same_35 rfl rfl ?_
            | refine T_iload_n (pc1 := 37) (pc := 36) k_M_same_36 rfl rfl ?_
            | (refine T_cV (As := [_, _]) (d1 := 5) (pc1 := 40) (pc := 37) k_M_same_37 rfl (by decide) (Nat.le_of_ble_eq_true rfl) rfl o_M_walks l_M_174 rfl (by first | exact ga G (by decide) rfl | assumption) rfl (c_M_walks G hN ok ha hb (fun J hJ hJN => ?_)) <;> try dsimp only [psh])
            | refine T_pop (pc1 := 41) (pc := 40) k_M_same_40 rfl rfl ?_
            | refine T_aload_n (pc1 := 42) (pc := 41) k_M_same_41 rfl rfl ?_
            | refine T_aload_nN (pc1 := 42) (pc := 41) k_M_same_41 rfl rfl ?_
            | (refine T_cV (As := []) (d1 := 1) (pc1 := 45) (pc := 42) k_M_same_42 rfl (by decide) (Nat.le_of_ble_eq_true rfl) rfl o_M_isAsLast l_M_189 rfl (by first | exact ga G (by decide) rfl | assumption) rfl (c_M_isAsLast G hJN hW (fun J2 hJ2 hv => ?_)) <;> try dsimp only [psh])
            | (with_reducible refine T_if_neN (tgt := 67) (pc1 := 48) (pc := 45) k_M_same_45 (by decide) (by decide) (by omega) (fun hc => ?_) (fun hc => ?_) <;> first | (exfalso; omega) | skip)
            | refine T_if_ne_t (tgt := 67) (pc := 45) k_M_same_45 rfl (by decide) ?_
            | refine T_if_ne_f (tgt := 67) (pc1 := 48) (pc := 45) k_M_same_45 rfl rfl (by decide) ?_
            | refine T_if_ne (tgt := 67) (pc1 := 48) (pc := 45) k_M_same_45 rfl rfl (fun hc => ?_) (fun hc => ?_)
            | refine T_iload_n (pc1 := 49) (pc := 48) k_M_same_48 rfl rfl ?_
            | refine T_bipush (v := (nI 40)) (pc1 := 51) (pc := 49) k_M_same_49 rfl (by decide) ?_
            | (with_reducible refine T_icmp_gtN (tgt := 67) (pc1 := 54) (pc := 51) k_M_same_51 (by decide) (by decide) (by omega) (by omega) (fun hc => ?_) (fun hc => ?_) <;> first | (exfalso; omega) | skip)
            | refine T_icmp_gt_t (tgt := 67) (pc := 51) k_M_same_51 rfl (by decide) ?_
            | refine T_icmp_gt_f (tgt := 67) (pc1 := 54) (pc := 51) k_M_same_51 rfl rfl (by decide) ?_
            | refine T_icmp_gt (tgt := 67) (pc1 := 54) (pc := 51) k_M_same_51 rfl rfl (fun hc => ?_) (fun hc => ?_)
            | refine T_aload_n (pc1 := 55) (pc := 54) k_M_same_54 rfl rfl ?_
            | refine T_aload_nN (pc1 := 55) (pc := 54) k_M_same_54 rfl rfl ?_
            | refine T_iload_n (pc1 := 56) (pc := 55) k_M_same_55 rfl rfl ?_
            | refine T_iload_n (pc1 := 57) (pc := 56) k_M_same_56 rfl rfl ?_
            | (refine T_cV (As := [_, _]) (d1 := 5) (pc1 := 60) (pc := 57) k_M_same_57 rfl (by decide) (Nat.le_of_ble_eq_true rfl) rfl o_M_walks l_M_174 rfl (by first | exact ga G (by decide) rfl | assumption) rfl (c_M_walks G hN ok ha hb (fun J hJ hJN => ?_)) <;> try dsimp only [psh])
            | refine T_pop (pc1 := 61) (pc := 60) k_M_same_60 rfl rfl ?_
            | refine T_iincN (b := 1) (pc1 := 64) (pc := 61) k_M_same_61 rfl rfl (by decide) ?_
            | refine T_iinc (v := (nI 1)) (pc1 := 64) (pc := 61) k_M_same_61 rfl rfl (by decide) ?_
            | refine T_goto (tgt := 41) (pc := 64) k_M_same_64 rfl ?_
            | refine T_iload_n (pc1 := 69) (pc := 68) k_M_same_68 rfl rfl ?_
            | refine T_bipush (v := (nI 40)) (pc1 := 71) (pc := 69) k_M_same_69 rfl (by decide) ?_
            | (with_reducible refine T_icmp_leN (tgt := 79) (pc1 := 74) (pc := 71) k_M_same_71 (by decide) (by decide) (by omega) (by omega) (fun hc => ?_) (fun hc => ?_) <;> first | (exfalso; omega) | skip)
            | refine T_icmp_le_t (tgt := 79) (pc := 71) k_M_same_71 rfl (by decide) ?_
            | refine T_icmp_le_f (tgt := 79) (pc1 := 74) (pc := 71) k_M_same_71 rfl rfl (by decide) ?_
            | refine T_icmp_le (tgt := 79) (pc1 := 74) (pc := 71) k_M_same_71 rfl rfl (fun hc => ?_) (fun hc => ?_)
            | refine T_ldc (v := (-1000000005)) (pc1 := 76) (pc := 74) k_M_same_74 rfl c_M_103 ?_
            | refine T_goto (tgt := 80) (pc := 76) k_M_same_76 rfl ?_
            | refine T_iload_n (pc1 := 80) (pc := 79) k_M_same_79 rfl rfl ?_
            | (refine T_cV (As := [_]) (d1 := 2) (pc1 := 83) (pc := 80) k_M_same_80 rfl (by decide) (Nat.le_of_ble_eq_true rfl) rfl o_M_putBack l_M_183 rfl (by first | exact ga G (by decide) rfl | assumption) rfl (c_M_putBack G ?_) <;> try dsimp only [psh])
            | refine T_retI (pc := 83) k_M_same_83 rfl (by first | rfl | decide | assumption) ?_)
          exact go J2 hJ2
      | succ q ih =>
        intro k J hk h1 hJ h104 hJN hL hl
        have hW := itN_okW (fr := fr) (to0 := to0) ok hf ht k
        obtain ⟨ok1, ok2⟩ := itN_ok (fr := fr) (to0 := to0) ok hf ht (k + 1)
        have ep : vE (itN N n tn fr to0 (k + 1)) (J 107) = smP N n tn fr to0 k := by
          have : ∀ a b : Bool, (a = true ↔ b = true) → a = b := by decide
          apply this
          unfold smP
          rw [vE_iff, vE_iff]
          exact ⟨fun h k hk => by rw [← hL k hk]; exact h k hk, fun h k hk => by rw [hL k hk]; exact h k hk⟩
        have el : lsq (smP N n tn fr to0) k (41 - k) = if smP N n tn fr to0 k = true then some k else lsq (smP N n tn fr to0) (k + 1) (40 - k) := by rw [show 41 - k = (40 - k) + 1 by omega, lsq]
        rw [el] at hl
        repeat' (first
          | refine T_aload_n (pc1 := 42) (pc := 41) k_M_same_41 rfl rfl ?_
          | refine T_aload_nN (pc1 := 42) (pc := 41) k_M_same_41 rfl rfl ?_
          | (refine T_cV (As := []) (d1 := 1) (pc1 := 45) (pc := 42) k_M_same_42 rfl (by decide) (Nat.le_of_ble_eq_true rfl) rfl o_M_isAsLast l_M_189 rfl (by first | exact ga G (by decide) rfl | assumption) rfl (c_M_isAsLast G hJN hW (fun J2 hJ2 hv => ?_)) <;> try dsimp only [psh]))
        rw [ep]
        have h104' := (hJ2 104 (by decide)).trans h104
        have hJ2N := (hJ2 102 (by decide)).trans hJN
        have hJ2x := eqx_tr hJ (eqx_mono (T := [102, 104, 105, 106, 107, 112, 113]) hJ2 (by decide))
        cases hp : smP N n tn fr to0 k with
        | true =>
          rw [if_pos hp] at hl
          repeat' (first
            | refine T_iload_n (pc1 := 1) (pc := 0) k_M_same_0 rfl rfl ?_
            | refine T_iload_n (pc1 := 2) (pc := 1) k_M_same_1 rfl rfl ?_
            | (refine T_cS (As := [_, _]) (d1 := 3) (pc1 := 5) (pc := 2) k_M_same_2 rfl (by decide) (Nat.le_of_ble_eq_true rfl) rfl o_M_areSpots l_M_107 rfl (c_M_areSpots (fun hw => ?_) (fun hw => ?_)) <;> try dsimp only [psh])
            | (with_reducible refine T_if_neN (tgt := 11) (pc1 := 8) (pc := 5) k_M_same_5 (by decide) (by decide) (by omega) (fun hc => ?_) (fun hc => ?_) <;> first | (exfalso; omega) | skip)
            | refine T_if_ne_t (tgt := 11) (pc := 5) k_M_same_5 rfl (by decide) ?_
            | refine T_if_ne_f (tgt := 11) (pc1 := 8) (pc := 5) k_M_same_5 rfl rfl (by decide) ?_
            | refine T_if_ne (tgt := 11) (pc1 := 8) (pc := 5) k_M_same_5 rfl rfl (fun hc => ?_) (fun hc => ?_)
            | refine T_ldc (v := (-1000000001)) (pc1 := 10) (pc := 8) k_M_same_8 rfl c_M_111 ?_
            | refine T_retI (pc := 10) k_M_same_10 rfl (by first | rfl | decide | assumption) ?_
            | refine T_aload_n (pc1 := 12) (pc := 11) k_M_same_11 rfl rfl ?_
            | refine T_aload_nN (pc1 := 12) (pc := 11) k_M_same_11 rfl rfl ?_
            | refine T_getR (pc1 := 15) (pc := 12) k_M_same_12 rfl f_M_9 rfl (by first | exact ga G (by decide) rfl | assumption) (by first | exact gr G (by decide) rfl | assumption) ?_
            | refine T_aload_n (pc1 := 16) (pc := 15) k_M_same_15 rfl rfl ?_
            | refine T_aload_nN (pc1 := 16) (pc := 15) k_M_same_15 rfl rfl ?_
            | refine T_getR (pc1 := 19) (pc := 16) k_M_same_16 rfl f_M_16 rfl (by first | exact ga G (by decide) rfl | assumption) (by first | exact gr G (by decide) rfl | assumption) ?_
            | refine T_sipush (v := (nI 156)) (pc1 := 22) (pc := 19) k_M_same_19 rfl (by decide) ?_
            | (refine T_cS (As := [_, _, _]) (d1 := 1) (pc1 := 25) (pc := 22) k_M_same_22 rfl (by decide) (Nat.le_of_ble_eq_true rfl) rfl o_M_copyRow l_M_91 rfl (c_M_copyRow (ga G (by decide) rfl) (ga G (by decide) rfl) (by omega) (by omega) (by omega) (by omega) (by decide) ?_) <;> try dsimp only [psh])
            | refine T_aload_n (pc1 := 26) (pc := 25) k_M_same_25 rfl rfl ?_
            | refine T_aload_nN (pc1 := 26) (pc := 25) k_M_same_25 rfl rfl ?_
            | refine T_getR (pc1 := 29) (pc := 26) k_M_same_26 rfl f_M_25 rfl (by first | exact ga G (by decide) rfl | assumption) (by first | exact gr G (by decide) rfl | assumption) ?_
            | refine T_iconst (v := (nI 0)) (pc1 := 30) (pc := 29) k_M_same_29 rfl (by decide) ?_
            | refine T_iconst (v := (-1)) (pc1 := 31) (pc := 30) k_M_same_30 rfl (by decide) ?_
            | refine T_iastN (pc1 := 32) (pc := 31) k_M_same_31 rfl (by first | exact ga G (by decide) rfl | assumption) (by omega) (by omega) ?_
            | refine T_iconst (v := (nI 0)) (pc1 := 33) (pc := 32) k_M_same_32 rfl (by decide) ?_
            | refine T_istore_n (pc1 := 34) (pc := 33) k_M_same_33 rfl (Nat.le_of_ble_eq_true rfl) ?_
            | refine T_aload_n (pc1 := 35) (pc := 34) k_M_same_34 rfl rfl ?_
            | refine T_aload_nN (pc1 := 35) (pc := 34) k_M_same_34 rfl rfl ?_
            | refine T_iload_n (pc1 := 36) (pc := 35) k_M_same_35 rfl rfl ?_
            | refine T_iload_n (pc1 := 37) (pc := 36) k_M_same_36 rfl rfl ?_
            | (refine T_cV (As := [_, _]) (d1 := 5) (pc1 := 40) (pc := 37) k_M_same_37 rfl (by decide) (Nat.le_of_ble_eq_true rfl) rfl o_M_walks l_M_174 rfl (by first | exact ga G (by decide) rfl | assumption) rfl (c_M_walks G hN ok ha hb (fun J hJ hJN => ?_)) <;> try dsimp only [psh])
            | refine T_pop (pc1 := 41) (pc := 40) k_M_same_40 rfl rfl ?_
            | refine T_aload_n (pc1 := 42) (pc := 41) k_M_same_41 rfl rfl ?_
            | refine T_aload_nN (pc1 := 42) (pc := 41) k_M_same_41 rfl rfl ?_
            | (refine T_cV (As := []) (d1 := 1) (pc1 := 45) (pc := 42) k_M_same_42 rfl (by decide) (Nat.le_of_ble_eq_true rfl) rfl o_M_isAsLast l_M_189 rfl (by first | exact ga G (by decide) rfl | assumption) rfl (c_M_isAsLast G hJN hW (fun J2 hJ2 hv => ?_)) <;> try dsimp only [psh])
            | (with_reducible refine T_if_neN (tgt := 67) (pc1 := 48) (pc := 45) k_M_same_45 (by decide) (by decide) (by omega) (fun hc => ?_) (fun hc => ?_) <;> first | (exfalso; omega) | skip)
            | refine T_if_ne_t (tgt := 67) (pc := 45) k_M_same_45 rfl (by decide) ?_
            | refine T_if_ne_f (tgt := 67) (pc1 := 48) (pc := 45) k_M_same_45 rfl rfl (by decide) ?_
            | refine T_if_ne (tgt := 67) (pc1 := 48) (pc := 45) k_M_same_45 rfl rfl (fun hc => ?_) (fun hc => ?_)
            | refine T_iload_n (pc1 := 49) (pc := 48) k_M_same_48 rfl rfl ?_
            | refine T_bipush (v := (nI 40)) (pc1 := 51) (pc := 49) k_M_same_49 rfl (by decide) ?_
            | (with_reducible refine T_icmp_gtN (tgt := 67) (pc1 := 54) (pc := 51) k_M_same_51 (by decide) (by decide) (by omega) (by omega) (fun hc => ?_) (fun hc => ?_) <;> first | (exfalso; omega) | skip)
            | refine T_icmp_gt_t (tgt := 67) (pc := 51) k_M_same_51 rfl (by decide) ?_
            | refine T_icmp_gt_f (tgt := 67) (pc1 := 54) (pc := 51) k_M_same_51 rfl rfl (by decide) ?_
            | refine T_icmp_gt (tgt := 67) (pc1 := 54) (pc := 51) k_M_same_51 rfl rfl (fun hc => ?_) (fun hc => ?_)
            | refine T_aload_n (pc1 := 55) (pc := 54) k_M_same_54 rfl rfl ?_
            | refine T_aload_nN (pc1 := 55) (pc := 54) k_M_same_54 rfl rfl ?_
            | refine T_iload_n (pc1 := 56) (pc := 55) k_M_same_55 rfl rfl ?_
            | refine T_iload_n (pc1 := 57) (pc := 56) k_M_same_56 rfl rfl ?_
            | (refine T_cV (As := [_, _]) (d1 := 5) (pc1 := 60) (pc := 57) k_M_same_57 rfl (by decide) (Nat.le_of_ble_eq_true rfl) rfl o_M_walks l_M_174 rfl (by first | exact ga G (by decide) rfl | assumption) rfl (c_M_walks G hN ok ha hb (fun J hJ hJN => ?_)) <;> try dsimp only [psh])
            | refine T_pop (pc1 := 61) (pc := 60) k_M_same_60 rfl rfl ?_
            | refine T_iincN (b := 1) (pc1 := 64) (pc := 61) k_M_same_61 rfl rfl (by decide) ?_
            | refine T_iinc (v := (nI 1)) (pc1 := 64) (pc := 61) k_M_same_61 rfl rfl (by decide) ?_
            | refine T_goto (tgt := 41) (pc := 64) k_M_same_64 rfl ?_
            | refine T_iload_n (pc1 := 69) (pc := 68) k_M_same_68 rfl rfl ?_
            | refine T_bipush (v := (nI 40)) (pc1 := 71) (pc := 69) k_M_same_69 rfl (by decide) ?_
            | (with_reducible refine T_icmp_leN (tgt := 79) (pc1 := 74) (pc := 71) k_M_same_71 (by decide) (by decide) (by omega) (by omega) (fun hc => ?_) (fun hc => ?_) <;> first | (exfalso; omega) | skip)
            | refine T_icmp_le_t (tgt := 79) (pc := 71) k_M_same_71 rfl (by decide) ?_
            | refine T_icmp_le_f (tgt := 79) (pc1 := 74) (pc := 71) k_M_same_71 rfl rfl (by decide) ?_
            | refine T_icmp_le (tgt := 79) (pc1 := 74) (pc := 71) k_M_same_71 rfl rfl (fun hc => ?_) (fun hc => ?_)
            | refine T_ldc (v := (-1000000005)) (pc1 := 76) (pc := 74) k_M_same_74 rfl c_M_103 ?_
            | refine T_goto (tgt := 80) (pc := 76) k_M_same_76 rfl ?_
            | refine T_iload_n (pc1 := 80) (pc := 79) k_M_same_79 rfl rfl ?_
            | (refine T_cV (As := [_]) (d1 := 2) (pc1 := 83) (pc := 80) k_M_same_80 rfl (by decide) (Nat.le_of_ble_eq_true rfl) rfl o_M_putBack l_M_183 rfl (by first | exact ga G (by decide) rfl | assumption) rfl (c_M_putBack G ?_) <;> try dsimp only [psh])
            | refine T_retI (pc := 83) k_M_same_83 rfl (by first | rfl | decide | assumption) ?_)
          exact fin k (nI k) J2 (by omega) (by rw [if_neg (by omega)]) (by rw [hl]; rfl) hJ2x h104' (fun k hk => by rw [hJ2N]; exact ok2 k hk)
        | false =>
          rw [if_neg (by rw [hp]; decide)] at hl
          repeat' (first
            | refine T_iload_n (pc1 := 1) (pc := 0) k_M_same_0 rfl rfl ?_
            | refine T_iload_n (pc1 := 2) (pc := 1) k_M_same_1 rfl rfl ?_
            | (refine T_cS (As := [_, _]) (d1 := 3) (pc1 := 5) (pc := 2) k_M_same_2 rfl (by decide) (Nat.le_of_ble_eq_true rfl) rfl o_M_areSpots l_M_107 rfl (c_M_areSpots (fun hw => ?_) (fun hw => ?_)) <;> try dsimp only [psh])
            | (with_reducible refine T_if_neN (tgt := 11) (pc1 := 8) (pc := 5) k_M_same_5 (by decide) (by decide) (by omega) (fun hc => ?_) (fun hc => ?_) <;> first | (exfalso; omega) | skip)
            | refine T_if_ne_t (tgt := 11) (pc := 5) k_M_same_5 rfl (by decide) ?_
            | refine T_if_ne_f (tgt := 11) (pc1 := 8) (pc := 5) k_M_same_5 rfl rfl (by decide) ?_
            | refine T_if_ne (tgt := 11) (pc1 := 8) (pc := 5) k_M_same_5 rfl rfl (fun hc => ?_) (fun hc => ?_)
            | refine T_ldc (v := (-1000000001)) (pc1 := 10) (pc := 8) k_M_same_8 rfl c_M_111 ?_
            | refine T_retI (pc := 10) k_M_same_10 rfl (by first | rfl | decide | assumption) ?_
            | refine T_aload_n (pc1 := 12) (pc := 11) k_M_same_11 rfl rfl ?_
            | refine T_aload_nN (pc1 := 12) (pc := 11) k_M_same_11 rfl rfl ?_
            | refine T_getR (pc1 := 15) (pc := 12) k_M_same_12 rfl f_M_9 rfl (by first | exact ga G (by decide) rfl | assumption) (by first | exact gr G (by decide) rfl | assumption) ?_
            | refine T_aload_n (pc1 := 16) (pc := 15) k_M_same_15 rfl rfl ?_
            | refine T_aload_nN (pc1 := 16) (pc := 15) k_M_same_15 rfl rfl ?_
            | refine T_getR (pc1 := 19) (pc := 16) k_M_same_16 rfl f_M_16 rfl (by first | exact ga G (by decide) rfl | assumption) (by first | exact gr G (by decide) rfl | assumption) ?_
            | refine T_sipush (v := (nI 156)) (pc1 := 22) (pc := 19) k_M_same_19 rfl (by decide) ?_
            | (refine T_cS (As := [_, _, _]) (d1 := 1) (pc1 := 25) (pc := 22) k_M_same_22 rfl (by decide) (Nat.le_of_ble_eq_true rfl) rfl o_M_copyRow l_M_91 rfl (c_M_copyRow (ga G (by decide) rfl) (ga G (by decide) rfl) (by omega) (by omega) (by omega) (by omega) (by decide) ?_) <;> try dsimp only [psh])
            | refine T_aload_n (pc1 := 26) (pc := 25) k_M_same_25 rfl rfl ?_
            | refine T_aload_nN (pc1 := 26) (pc := 25) k_M_same_25 rfl rfl ?_
            | refine T_getR (pc1 := 29) (pc := 26) k_M_same_26 rfl f_M_25 rfl (by first | exact ga G (by decide) rfl | assumption) (by first | exact gr G (by decide) rfl | assumption) ?_
            | refine T_iconst (v := (nI 0)) (pc1 := 30) (pc := 29) k_M_same_29 rfl (by decide) ?_
            | refine T_iconst (v := (-1)) (pc1 := 31) (pc := 30) k_M_same_30 rfl (by decide) ?_
            | refine T_iastN (pc1 := 32) (pc := 31) k_M_same_31 rfl (by first | exact ga G (by decide) rfl | assumption) (by omega) (by omega) ?_
            | refine T_iconst (v := (nI 0)) (pc1 := 33) (pc := 32) k_M_same_32 rfl (by decide) ?_
            | refine T_istore_n (pc1 := 34) (pc := 33) k_M_same_33 rfl (Nat.le_of_ble_eq_true rfl) ?_
            | refine T_aload_n (pc1 := 35) (pc := 34) k_M_same_34 rfl rfl ?_
            | refine T_aload_nN (pc1 := 35) (pc := 34) k_M_same_34 rfl rfl ?_
            | refine T_iload_n (pc1 := 36) (pc := 35) k_M_same_35 rfl rfl ?_
            | refine T_iload_n (pc1 := 37) (pc := 36) k_M_same_36 rfl rfl ?_
            | (refine T_cV (As := [_, _]) (d1 := 5) (pc1 := 40) (pc := 37) k_M_same_37 rfl (by decide) (Nat.le_of_ble_eq_true rfl) rfl o_M_walks l_M_174 rfl (by first | exact ga G (by decide) rfl | assumption) rfl (c_M_walks G hN ok ha hb (fun J hJ hJN => ?_)) <;> try dsimp only [psh])
            | refine T_pop (pc1 := 41) (pc := 40) k_M_same_40 rfl rfl ?_
            | (refine T_cV (As := []) (d1 := 1) (pc1 := 45) (pc := 42) k_M_same_42 rfl (by decide) (Nat.le_of_ble_eq_true rfl) rfl o_M_isAsLast l_M_189 rfl (by first | exact ga G (by decide) rfl | assumption) rfl (c_M_isAsLast G hJN hW (fun J2 hJ2 hv => ?_)) <;> try dsimp only [psh])
            | (with_reducible refine T_if_neN (tgt := 67) (pc1 := 48) (pc := 45) k_M_same_45 (by decide) (by decide) (by omega) (fun hc => ?_) (fun hc => ?_) <;> first | (exfalso; omega) | skip)
            | refine T_if_ne_t (tgt := 67) (pc := 45) k_M_same_45 rfl (by decide) ?_
            | refine T_if_ne_f (tgt := 67) (pc1 := 48) (pc := 45) k_M_same_45 rfl rfl (by decide) ?_
            | refine T_if_ne (tgt := 67) (pc1 := 48) (pc := 45) k_M_same_45 rfl rfl (fun hc => ?_) (fun hc => ?_)
            | refine T_iload_n (pc1 := 49) (pc := 48) k_M_same_48 rfl rfl ?_
            | refine T_bipush (v := (nI 40)) (pc1 := 51) (pc := 49) k_M_same_49 rfl (by decide) ?_
            | (with_reducible refine T_icmp_gtN (tgt := 67) (pc1 := 54) (pc := 51) k_M_same_51 (by decide) (by decide) (by omega) (by omega) (fun hc => ?_) (fun hc => ?_) <;> first | (exfalso; omega) | skip)
            | refine T_icmp_gt_t (tgt := 67) (pc := 51) k_M_same_51 rfl (by decide) ?_
            | refine T_icmp_gt_f (tgt := 67) (pc1 := 54) (pc := 51) k_M_same_51 rfl rfl (by decide) ?_
            | refine T_icmp_gt (tgt := 67) (pc1 := 54) (pc := 51) k_M_same_51 rfl rfl (fun hc => ?_) (fun hc => ?_)
            | refine T_aload_n (pc1 := 55) (pc := 54) k_M_same_54 rfl rfl ?_
            | refine T_aload_nN (pc1 := 55) (pc := 54) k_M_same_54 rfl rfl ?_
            | refine T_iload_n (pc1 := 56) (pc := 55) k_M_same_55 rfl rfl ?_
            | refine T_iload_n (pc1 := 57) (pc := 56) k_M_same_56 rfl rfl ?_
            | (refine T_cV (As := [_, _]) (d1 := 5) (pc1 := 60) (pc := 57) k_M_same_57 rfl (by decide) (Nat.le_of_ble_eq_true rfl) rfl o_M_walks l_M_174 rfl (by first | exact ga G (by decide) rfl | assumption) rfl (c_M_walks G hJ2N ok1 hf ht (fun J3 hJ3 hJ3N => ?_)) <;> try dsimp only [psh])
            | refine T_pop (pc1 := 61) (pc := 60) k_M_same_60 rfl rfl ?_
            | refine T_iincN (b := 1) (pc1 := 64) (pc := 61) k_M_same_61 rfl rfl (by decide) ?_
            | refine T_iinc (v := (nI 1)) (pc1 := 64) (pc := 61) k_M_same_61 rfl rfl (by decide) ?_
            | refine T_goto (tgt := 41) (pc := 64) k_M_same_64 rfl ?_
            | refine T_iload_n (pc1 := 69) (pc := 68) k_M_same_68 rfl rfl ?_
            | refine T_bipush (v := (nI 40)) (pc1 := 71) (pc := 69) k_M_same_69 rfl (by decide) ?_
            | (with_reducible refine T_icmp_leN (tgt := 79) (pc1 := 74) (pc := 71) k_M_same_71 (by decide) (by decide) (by omega) (by omega) (fun hc => ?_) (fun hc => ?_) <;> first | (exfalso; omega) | skip)
            | refine T_icmp_le_t (tgt := 79) (pc := 71) k_M_same_71 rfl (by decide) ?_
            | refine T_icmp_le_f (tgt := 79) (pc1 := 74) (pc := 71) k_M_same_71 rfl rfl (by decide) ?_
            | refine T_icmp_le (tgt := 79) (pc1 := 74) (pc := 71) k_M_same_71 rfl rfl (fun hc => ?_) (fun hc => ?_)
            | refine T_ldc (v := (-1000000005)) (pc1 := 76) (pc := 74) k_M_same_74 rfl c_M_103 ?_
            | refine T_goto (tgt := 80) (pc := 76) k_M_same_76 rfl ?_
            | refine T_iload_n (pc1 := 80) (pc := 79) k_M_same_79 rfl rfl ?_
            | (refine T_cV (As := [_]) (d1 := 2) (pc1 := 83) (pc := 80) k_M_same_80 rfl (by decide) (Nat.le_of_ble_eq_true rfl) rfl o_M_putBack l_M_183 rfl (by first | exact ga G (by decide) rfl | assumption) rfl (c_M_putBack G ?_) <;> try dsimp only [psh])
            | refine T_retI (pc := 83) k_M_same_83 rfl (by first | rfl | decide | assumption) ?_)
          exact ih (k + 1) J3 (by omega) (by omega) (eqx_tr hJ2x (eqx_mono hJ3 (by decide))) ((hJ3 104 (by decide)).trans h104') hJ3N (fun j hj => by rw [hJ3 107 (by decide)]; exact hv j hj) (by rw [hl, show 40 - k = 41 - (k + 1) by omega])
    obtain ⟨ok1, ok2⟩ := itN_ok (fr := fr) (to0 := to0) ok hf ht 1
    have hW := itN_okW (fr := fr) (to0 := to0) ok hf ht 0
    have hm := (wkN_ok (fr := fr) (to0 := to0) ok hf ht).2.2
    repeat' (first
      | refine T_iload_n (pc1 := 1) (pc := 0) k_M_same_0 rfl rfl ?_
      | refine T_iload_n (pc1 := 2) (pc := 1) k_M_same_1 rfl rfl ?_
      | (refine T_cS (As := [_, _]) (d1 := 3) (pc1 := 5) (pc := 2) k_M_same_2 rfl (by decide) (Nat.le_of_ble_eq_true rfl) rfl o_M_areSpots l_M_107 rfl (c_M_areSpots (fun hw => ?_) (fun hw => ?_)) <;> try dsimp only [psh])
      | (with_reducible refine T_if_neN (tgt := 11) (pc1 := 8) (pc := 5) k_M_same_5 (by decide) (by decide) (by omega) (fun hc => ?_) (fun hc => ?_) <;> first | (exfalso; omega) | skip)
      | refine T_if_ne_t (tgt := 11) (pc := 5) k_M_same_5 rfl (by decide) ?_
      | refine T_if_ne_f (tgt := 11) (pc1 := 8) (pc := 5) k_M_same_5 rfl rfl (by decide) ?_
      | refine T_if_ne (tgt := 11) (pc1 := 8) (pc := 5) k_M_same_5 rfl rfl (fun hc => ?_) (fun hc => ?_)
      | refine T_ldc (v := (-1000000001)) (pc1 := 10) (pc := 8) k_M_same_8 rfl c_M_111 ?_
      | refine T_retI (pc := 10) k_M_same_10 rfl (by first | rfl | decide | assumption) ?_
      | refine T_aload_n (pc1 := 12) (pc := 11) k_M_same_11 rfl rfl ?_
      | refine T_aload_nN (pc1 := 12) (pc := 11) k_M_same_11 rfl rfl ?_
      | refine T_getR (pc1 := 15) (pc := 12) k_M_same_12 rfl f_M_9 rfl (by first | exact ga G (by decide) rfl | assumption) (by first | exact gr G (by decide) rfl | assumption) ?_
      | refine T_aload_n (pc1 := 16) (pc := 15) k_M_same_15 rfl rfl ?_
      | refine T_aload_nN (pc1 := 16) (pc := 15) k_M_same_15 rfl rfl ?_
      | refine T_getR (pc1 := 19) (pc := 16) k_M_same_16 rfl f_M_16 rfl (by first | exact ga G (by decide) rfl | assumption) (by first | exact gr G (by decide) rfl | assumption) ?_
      | refine T_sipush (v := (nI 156)) (pc1 := 22) (pc := 19) k_M_same_19 rfl (by decide) ?_
      | (refine T_cS (As := [_, _, _]) (d1 := 1) (pc1 := 25) (pc := 22) k_M_same_22 rfl (by decide) (Nat.le_of_ble_eq_true rfl) rfl o_M_copyRow l_M_91 rfl (c_M_copyRow (ga G (by decide) rfl) (ga G (by decide) rfl) (by omega) (by omega) (by omega) (by omega) (by decide) ?_) <;> try dsimp only [psh])
      | refine T_aload_n (pc1 := 26) (pc := 25) k_M_same_25 rfl rfl ?_
      | refine T_aload_nN (pc1 := 26) (pc := 25) k_M_same_25 rfl rfl ?_
      | refine T_getR (pc1 := 29) (pc := 26) k_M_same_26 rfl f_M_25 rfl (by first | exact ga G (by decide) rfl | assumption) (by first | exact gr G (by decide) rfl | assumption) ?_
      | refine T_iconst (v := (nI 0)) (pc1 := 30) (pc := 29) k_M_same_29 rfl (by decide) ?_
      | refine T_iconst (v := (-1)) (pc1 := 31) (pc := 30) k_M_same_30 rfl (by decide) ?_
      | refine T_iastN (pc1 := 32) (pc := 31) k_M_same_31 rfl (by first | exact ga G (by decide) rfl | assumption) (by omega) (by omega) ?_
      | refine T_iconst (v := (nI 0)) (pc1 := 33) (pc := 32) k_M_same_32 rfl (by decide) ?_
      | refine T_istore_n (pc1 := 34) (pc := 33) k_M_same_33 rfl (Nat.le_of_ble_eq_true rfl) ?_
      | refine T_aload_n (pc1 := 35) (pc := 34) k_M_same_34 rfl rfl ?_
      | refine T_aload_nN (pc1 := 35) (pc := 34) k_M_same_34 rfl rfl ?_
      | refine T_iload_n (pc1 := 36) (pc := 35) k_M_same_35 rfl rfl ?_
      | refine T_iload_n (pc1 := 37) (pc := 36) k_M_same_36 rfl rfl ?_
      | (refine T_cV (As := [_, _]) (d1 := 5) (pc1 := 40) (pc := 37) k_M_same_37 rfl (by decide) (Nat.le_of_ble_eq_true rfl) rfl o_M_walks l_M_174 rfl (by first | exact ga G (by decide) rfl | assumption) rfl (c_M_walks (N := N) G (by rw [pI_rw (by decide), va_up_ne _ _ (by decide)]; exact hN) ok hf ht (fun J2 hJ2 hJ2N => ?_)) <;> try dsimp only [psh])
      | refine T_pop (pc1 := 41) (pc := 40) k_M_same_40 rfl rfl ?_
      | refine T_aload_n (pc1 := 42) (pc := 41) k_M_same_41 rfl rfl ?_
      | refine T_aload_nN (pc1 := 42) (pc := 41) k_M_same_41 rfl rfl ?_
      | (with_reducible refine T_if_neN (tgt := 67) (pc1 := 48) (pc := 45) k_M_same_45 (by decide) (by decide) (by omega) (fun hc => ?_) (fun hc => ?_) <;> first | (exfalso; omega) | skip)
      | refine T_if_ne_t (tgt := 67) (pc := 45) k_M_same_45 rfl (by decide) ?_
      | refine T_if_ne_f (tgt := 67) (pc1 := 48) (pc := 45) k_M_same_45 rfl rfl (by decide) ?_
      | refine T_if_ne (tgt := 67) (pc1 := 48) (pc := 45) k_M_same_45 rfl rfl (fun hc => ?_) (fun hc => ?_)
      | refine T_iload_n (pc1 := 49) (pc := 48) k_M_same_48 rfl rfl ?_
      | refine T_bipush (v := (nI 40)) (pc1 := 51) (pc := 49) k_M_same_49 rfl (by decide) ?_
      | (with_reducible refine T_icmp_gtN (tgt := 67) (pc1 := 54) (pc := 51) k_M_same_51 (by decide) (by decide) (by omega) (by omega) (fun hc => ?_) (fun hc => ?_) <;> first | (exfalso; omega) | skip)
      | refine T_icmp_gt_t (tgt := 67) (pc := 51) k_M_same_51 rfl (by decide) ?_
      | refine T_icmp_gt_f (tgt := 67) (pc1 := 54) (pc := 51) k_M_same_51 rfl rfl (by decide) ?_
      | refine T_icmp_gt (tgt := 67) (pc1 := 54) (pc := 51) k_M_same_51 rfl rfl (fun hc => ?_) (fun hc => ?_)
      | refine T_aload_n (pc1 := 55) (pc := 54) k_M_same_54 rfl rfl ?_
      | refine T_aload_nN (pc1 := 55) (pc := 54) k_M_same_54 rfl rfl ?_
      | refine T_iload_n (pc1 := 56) (pc := 55) k_M_same_55 rfl rfl ?_
      | refine T_iload_n (pc1 := 57) (pc := 56) k_M_same_56 rfl rfl ?_
      | (refine T_cV (As := [_, _]) (d1 := 5) (pc1 := 60) (pc := 57) k_M_same_57 rfl (by decide) (Nat.le_of_ble_eq_true rfl) rfl o_M_walks l_M_174 rfl (by first | exact ga G (by decide) rfl | assumption) rfl (c_M_walks G hJ2N ok1 hf ht (fun J3 hJ3 hJ3N => ?_)) <;> try dsimp only [psh])
      | refine T_pop (pc1 := 61) (pc := 60) k_M_same_60 rfl rfl ?_
      | refine T_iincN (b := 1) (pc1 := 64) (pc := 61) k_M_same_61 rfl rfl (by decide) ?_
      | refine T_iinc (v := (nI 1)) (pc1 := 64) (pc := 61) k_M_same_61 rfl rfl (by decide) ?_
      | refine T_goto (tgt := 41) (pc := 64) k_M_same_64 rfl ?_
      | refine T_iload_n (pc1 := 69) (pc := 68) k_M_same_68 rfl rfl ?_
      | refine T_bipush (v := (nI 40)) (pc1 := 71) (pc := 69) k_M_same_69 rfl (by decide) ?_
      | (with_reducible refine T_icmp_leN (tgt := 79) (pc1 := 74) (pc := 71) k_M_same_71 (by decide) (by decide) (by omega) (by omega) (fun hc => ?_) (fun hc => ?_) <;> first | (exfalso; omega) | skip)
      | refine T_icmp_le_t (tgt := 79) (pc := 71) k_M_same_71 rfl (by decide) ?_
      | refine T_icmp_le_f (tgt := 79) (pc1 := 74) (pc := 71) k_M_same_71 rfl rfl (by decide) ?_
      | refine T_icmp_le (tgt := 79) (pc1 := 74) (pc := 71) k_M_same_71 rfl rfl (fun hc => ?_) (fun hc => ?_)
      | refine T_ldc (v := (-1000000005)) (pc1 := 76) (pc := 74) k_M_same_74 rfl c_M_103 ?_
      | refine T_goto (tgt := 80) (pc := 76) k_M_same_76 rfl ?_
      | refine T_iload_n (pc1 := 80) (pc := 79) k_M_same_79 rfl rfl ?_
      | (refine T_cV (As := [_]) (d1 := 2) (pc1 := 83) (pc := 80) k_M_same_80 rfl (by decide) (Nat.le_of_ble_eq_true rfl) rfl o_M_putBack l_M_183 rfl (by first | exact ga G (by decide) rfl | assumption) rfl (c_M_putBack G ?_) <;> try dsimp only [psh])
      | refine T_retI (pc := 83) k_M_same_83 rfl (by first | rfl | decide | assumption) ?_)
    all_goals try (exfalso; exact hw hok)
    have e0 : vE (itN N n tn fr to0 1) (J2 107) = false := by
      cases h : vE (itN N n tn fr to0 1) (J2 107) with
      | false => rfl
      | true =>
        exfalso
        have := vE_iff.mp h 0 (by decide)
        rw [hJ2 107 (by decide), pI_eq] at this
        have e8 : vr (itN N n tn fr to0 1) 0 = nI (wkM N n tn fr to0) := wkE_8
        rw [e8] at this
        have := congrArg Int32.toInt this
        rw [nI_toInt (by omega)] at this
        have e1 : (-1 : Int32).toInt = -1 := rfl
        omega
    (refine T_cV (As := []) (d1 := 1) (pc1 := 45) (pc := 42) k_M_same_42 rfl (by decide) (Nat.le_of_ble_eq_true rfl) rfl o_M_isAsLast l_M_189 rfl (by first | exact ga G (by decide) rfl | assumption) rfl (c_M_isAsLast (N := itN N n tn fr to0 1) G hJ2N hW (fun J3 hJ3 hv => ?_)) <;> try dsimp only [psh])
    rw [e0]
    have b1 : eqx [102, 104, 105, 106, 107, 112, 113] I J2 := eqx_tr (eqx_pI (eqx_up eqx_rf _ (by decide)) _ (by decide)) (eqx_mono hJ2 (by decide))
    have b2 := eqx_tr b1 (eqx_mono (T := [102, 104, 105, 106, 107, 112, 113]) hJ3 (by decide))
    have hJ3N : J3 102 = itN N n tn fr to0 1 := (hJ3 102 (by decide)).trans hJ2N
    have c1 : J3 104 = cpy 156 N (I 104) := by
      rw [hJ3 104 (by decide), hJ2 104 (by decide), pI_rw (by decide), va_up_self, hN]
    repeat' (first
      | refine T_iload_n (pc1 := 1) (pc := 0) k_M_same_0 rfl rfl ?_
      | refine T_iload_n (pc1 := 2) (pc := 1) k_M_same_1 rfl rfl ?_
      | (refine T_cS (As := [_, _]) (d1 := 3) (pc1 := 5) (pc := 2) k_M_same_2 rfl (by decide) (Nat.le_of_ble_eq_true rfl) rfl o_M_areSpots l_M_107 rfl (c_M_areSpots (fun hw => ?_) (fun hw => ?_)) <;> try dsimp only [psh])
      | (with_reducible refine T_if_neN (tgt := 11) (pc1 := 8) (pc := 5) k_M_same_5 (by decide) (by decide) (by omega) (fun hc => ?_) (fun hc => ?_) <;> first | (exfalso; omega) | skip)
      | refine T_if_ne_t (tgt := 11) (pc := 5) k_M_same_5 rfl (by decide) ?_
      | refine T_if_ne_f (tgt := 11) (pc1 := 8) (pc := 5) k_M_same_5 rfl rfl (by decide) ?_
      | refine T_if_ne (tgt := 11) (pc1 := 8) (pc := 5) k_M_same_5 rfl rfl (fun hc => ?_) (fun hc => ?_)
      | refine T_ldc (v := (-1000000001)) (pc1 := 10) (pc := 8) k_M_same_8 rfl c_M_111 ?_
      | refine T_retI (pc := 10) k_M_same_10 rfl (by first | rfl | decide | assumption) ?_
      | refine T_aload_n (pc1 := 12) (pc := 11) k_M_same_11 rfl rfl ?_
      | refine T_aload_nN (pc1 := 12) (pc := 11) k_M_same_11 rfl rfl ?_
      | refine T_getR (pc1 := 15) (pc := 12) k_M_same_12 rfl f_M_9 rfl (by first | exact ga G (by decide) rfl | assumption) (by first | exact gr G (by decide) rfl | assumption) ?_
      | refine T_aload_n (pc1 := 16) (pc := 15) k_M_same_15 rfl rfl ?_
      | refine T_aload_nN (pc1 := 16) (pc := 15) k_M_same_15 rfl rfl ?_
      | refine T_getR (pc1 := 19) (pc := 16) k_M_same_16 rfl f_M_16 rfl (by first | exact ga G (by decide) rfl | assumption) (by first | exact gr G (by decide) rfl | assumption) ?_
      | refine T_sipush (v := (nI 156)) (pc1 := 22) (pc := 19) k_M_same_19 rfl (by decide) ?_
      | (refine T_cS (As := [_, _, _]) (d1 := 1) (pc1 := 25) (pc := 22) k_M_same_22 rfl (by decide) (Nat.le_of_ble_eq_true rfl) rfl o_M_copyRow l_M_91 rfl (c_M_copyRow (ga G (by decide) rfl) (ga G (by decide) rfl) (by omega) (by omega) (by omega) (by omega) (by decide) ?_) <;> try dsimp only [psh])
      | refine T_aload_n (pc1 := 26) (pc := 25) k_M_same_25 rfl rfl ?_
      | refine T_aload_nN (pc1 := 26) (pc := 25) k_M_same_25 rfl rfl ?_
      | refine T_getR (pc1 := 29) (pc := 26) k_M_same_26 rfl f_M_25 rfl (by first | exact ga G (by decide) rfl | assumption) (by first | exact gr G (by decide) rfl | assumption) ?_
      | refine T_iconst (v := (nI 0)) (pc1 := 30) (pc := 29) k_M_same_29 rfl (by decide) ?_
      | refine T_iconst (v := (-1)) (pc1 := 31) (pc := 30) k_M_same_30 rfl (by decide) ?_
      | refine T_iastN (pc1 := 32) (pc := 31) k_M_same_31 rfl (by first | exact ga G (by decide) rfl | assumption) (by omega) (by omega) ?_
      | refine T_iconst (v := (nI 0)) (pc1 := 33) (pc := 32) k_M_same_32 rfl (by decide) ?_
      | refine T_istore_n (pc1 := 34) (pc := 33) k_M_same_33 rfl (Nat.le_of_ble_eq_true rfl) ?_
      | refine T_aload_n (pc1 := 35) (pc := 34) k_M_same_34 rfl rfl ?_
      | refine T_aload_nN (pc1 := 35) (pc := 34) k_M_same_34 rfl rfl ?_
      | refine T_iload_n (pc1 := 36) (pc := 35) k_M_same_35 rfl rfl ?_
      | refine T_iload_n (pc1 := 37) (pc := 36) k_M_same_36 rfl rfl ?_
      | (refine T_cV (As := [_, _]) (d1 := 5) (pc1 := 40) (pc := 37) k_M_same_37 rfl (by decide) (Nat.le_of_ble_eq_true rfl) rfl o_M_walks l_M_174 rfl (by first | exact ga G (by decide) rfl | assumption) rfl (c_M_walks (N := N) G (by rw [pI_rw (by decide), va_up_ne _ _ (by decide)]; exact hN) ok hf ht (fun J2 hJ2 hJ2N => ?_)) <;> try dsimp only [psh])
      | refine T_pop (pc1 := 41) (pc := 40) k_M_same_40 rfl rfl ?_
      | (refine T_cV (As := []) (d1 := 1) (pc1 := 45) (pc := 42) k_M_same_42 rfl (by decide) (Nat.le_of_ble_eq_true rfl) rfl o_M_isAsLast l_M_189 rfl (by first | exact ga G (by decide) rfl | assumption) rfl (c_M_isAsLast (N := itN N n tn fr to0 1) G hJ2N hW (fun J3 hJ3 hv => ?_)) <;> try dsimp only [psh])
      | (with_reducible refine T_if_neN (tgt := 67) (pc1 := 48) (pc := 45) k_M_same_45 (by decide) (by decide) (by omega) (fun hc => ?_) (fun hc => ?_) <;> first | (exfalso; omega) | skip)
      | refine T_if_ne_t (tgt := 67) (pc := 45) k_M_same_45 rfl (by decide) ?_
      | refine T_if_ne_f (tgt := 67) (pc1 := 48) (pc := 45) k_M_same_45 rfl rfl (by decide) ?_
      | refine T_if_ne (tgt := 67) (pc1 := 48) (pc := 45) k_M_same_45 rfl rfl (fun hc => ?_) (fun hc => ?_)
      | refine T_iload_n (pc1 := 49) (pc := 48) k_M_same_48 rfl rfl ?_
      | refine T_bipush (v := (nI 40)) (pc1 := 51) (pc := 49) k_M_same_49 rfl (by decide) ?_
      | (with_reducible refine T_icmp_gtN (tgt := 67) (pc1 := 54) (pc := 51) k_M_same_51 (by decide) (by decide) (by omega) (by omega) (fun hc => ?_) (fun hc => ?_) <;> first | (exfalso; omega) | skip)
      | refine T_icmp_gt_t (tgt := 67) (pc := 51) k_M_same_51 rfl (by decide) ?_
      | refine T_icmp_gt_f (tgt := 67) (pc1 := 54) (pc := 51) k_M_same_51 rfl rfl (by decide) ?_
      | refine T_icmp_gt (tgt := 67) (pc1 := 54) (pc := 51) k_M_same_51 rfl rfl (fun hc => ?_) (fun hc => ?_)
      | refine T_aload_n (pc1 := 55) (pc := 54) k_M_same_54 rfl rfl ?_
      | refine T_aload_nN (pc1 := 55) (pc := 54) k_M_same_54 rfl rfl ?_
      | refine T_iload_n (pc1 := 56) (pc := 55) k_M_same_55 rfl rfl ?_
      | refine T_iload_n (pc1 := 57) (pc := 56) k_M_same_56 rfl rfl ?_
      | (refine T_cV (As := [_, _]) (d1 := 5) (pc1 := 60) (pc := 57) k_M_same_57 rfl (by decide) (Nat.le_of_ble_eq_true rfl) rfl o_M_walks l_M_174 rfl (by first | exact ga G (by decide) rfl | assumption) rfl (c_M_walks G hJ3N ok1 hf ht (fun J4 hJ4 hJ4N => ?_)) <;> try dsimp only [psh])
      | refine T_pop (pc1 := 61) (pc := 60) k_M_same_60 rfl rfl ?_
      | refine T_iincN (b := 1) (pc1 := 64) (pc := 61) k_M_same_61 rfl rfl (by decide) ?_
      | refine T_iinc (v := (nI 1)) (pc1 := 64) (pc := 61) k_M_same_61 rfl rfl (by decide) ?_
      | refine T_goto (tgt := 41) (pc := 64) k_M_same_64 rfl ?_
      | refine T_iload_n (pc1 := 69) (pc := 68) k_M_same_68 rfl rfl ?_
      | refine T_bipush (v := (nI 40)) (pc1 := 71) (pc := 69) k_M_same_69 rfl (by decide) ?_
      | (with_reducible refine T_icmp_leN (tgt := 79) (pc1 := 74) (pc := 71) k_M_same_71 (by decide) (by decide) (by omega) (by omega) (fun hc => ?_) (fun hc => ?_) <;> first | (exfalso; omega) | skip)
      | refine T_icmp_le_t (tgt := 79) (pc := 71) k_M_same_71 rfl (by decide) ?_
      | refine T_icmp_le_f (tgt := 79) (pc1 := 74) (pc := 71) k_M_same_71 rfl rfl (by decide) ?_
      | refine T_icmp_le (tgt := 79) (pc1 := 74) (pc := 71) k_M_same_71 rfl rfl (fun hc => ?_) (fun hc => ?_)
      | refine T_ldc (v := (-1000000005)) (pc1 := 76) (pc := 74) k_M_same_74 rfl c_M_103 ?_
      | refine T_goto (tgt := 80) (pc := 76) k_M_same_76 rfl ?_
      | refine T_iload_n (pc1 := 80) (pc := 79) k_M_same_79 rfl rfl ?_
      | (refine T_cV (As := [_]) (d1 := 2) (pc1 := 83) (pc := 80) k_M_same_80 rfl (by decide) (Nat.le_of_ble_eq_true rfl) rfl o_M_putBack l_M_183 rfl (by first | exact ga G (by decide) rfl | assumption) rfl (c_M_putBack G ?_) <;> try dsimp only [psh])
      | refine T_retI (pc := 83) k_M_same_83 rfl (by first | rfl | decide | assumption) ?_)
    exact loop 40 1 J4 (by omega) (by omega) (eqx_tr b2 (eqx_mono hJ4 (by decide))) ((hJ4 104 (by decide)).trans c1) hJ4N (fun j hj => by rw [hJ4 107 (by decide)]; exact hv j hj) rfl
  · rw [sameA, if_neg hok] at kk
    repeat' (first
      | refine T_iload_n (pc1 := 1) (pc := 0) k_M_same_0 rfl rfl ?_
      | refine T_iload_n (pc1 := 2) (pc := 1) k_M_same_1 rfl rfl ?_
      | (refine T_cS (As := [_, _]) (d1 := 3) (pc1 := 5) (pc := 2) k_M_same_2 rfl (by decide) (Nat.le_of_ble_eq_true rfl) rfl o_M_areSpots l_M_107 rfl (c_M_areSpots (fun hw => ?_) (fun hw => ?_)) <;> try dsimp only [psh])
      | (with_reducible refine T_if_neN (tgt := 11) (pc1 := 8) (pc := 5) k_M_same_5 (by decide) (by decide) (by omega) (fun hc => ?_) (fun hc => ?_) <;> first | (exfalso; omega) | skip)
      | refine T_if_ne_t (tgt := 11) (pc := 5) k_M_same_5 rfl (by decide) ?_
      | refine T_if_ne_f (tgt := 11) (pc1 := 8) (pc := 5) k_M_same_5 rfl rfl (by decide) ?_
      | refine T_if_ne (tgt := 11) (pc1 := 8) (pc := 5) k_M_same_5 rfl rfl (fun hc => ?_) (fun hc => ?_)
      | refine T_ldc (v := (-1000000001)) (pc1 := 10) (pc := 8) k_M_same_8 rfl c_M_111 ?_
      | refine T_retI (pc := 10) k_M_same_10 rfl (by first | rfl | decide | assumption) ?_)
    all_goals first | exact kk _ _ eqx_rf rfl | (exfalso; exact hok (by assumption))
set_option maxHeartbeats 4000000 in
theorem c_M_look {N : Row} {n tn : Nat} {f t w : Int32} (G : GeoOK g) (hN : I 102 = N) (ok : okL N n tn) (kk : ∀ J r, eqx [104, 105, 106, 112, 113] I J → r = lookA N n tn f t w → K (some (.int r)) g J) : Cl 6 M_M_look [.ref 101, .int f, .int t, .int w] g I K := by
  show Rl 6 M_M_look 0 [some (.ref 101), some (.int f), some (.int t), some (.int w), none, none, none, none] [] g I K
  obtain ⟨hn, h14, -⟩ := id ok
  have e0 : (nI 0).toInt = 0 := rfl
  have e1 : (nI 1).toInt = 1 := rfl
  by_cases hok : (rg 8 f ∧ rg 8 t) ∧ rg 2 w
  · rw [lookA, if_pos hok] at kk
    obtain ⟨fr, hf, rfl⟩ := rg_of hok.1.1 (by omega)
    obtain ⟨to0, ht, rfl⟩ := rg_of hok.1.2 (by omega)
    obtain ⟨x, hx, rfl⟩ := rg_of hok.2 (by omega)
    have ex := nI_toInt (n := x) (by omega)
    rw [nI_clamp (by omega), nI_clamp (by omega)] at kk
    have loop : ∀ q b b0 l0 o7 (J : IM), b + q = n → eqx [104, 105, 106, 112, 113] I J → (match lkS N n tn fr to0 b with | none => b0 = -1 | some p => b0 = nI p.1 ∧ l0 = nI p.2 ∧ p.1 < 14 ∧ p.2 ≤ 120000) → Rl 6 M_M_look 29 [some (.ref 101), some (.int (nI fr)), some (.int (nI to0)), some (.int (nI x)), some (.int b0), some (.int l0), some (.int (nI b)), o7] [] g J K := by
      intro q
      induction q with
      | zero =>
        intro b b0 l0 o7 J hb hJ hs
        have hb : b = n := by omega
        subst hb
        have hJN : J 102 = N := (hJ 102 (by decide)).trans hN
        have kk := kk J _ hJ rfl
        cases hl : lkS N b tn fr to0 b with
        | none =>
          rw [hl] at hs kk
          dsimp only at hs kk
          subst hs
          repeat' (first
            | refine T_iload_n (pc1 := 1) (pc := 0) k_M_look_0 rfl rfl ?_
            | refine T_iload_n (pc1 := 2) (pc := 1) k_M_look_1 rfl rfl ?_
            | (refine T_cS (As := [_, _]) (d1 := 3) (pc1 := 5) (pc := 2) k_M_look_2 rfl (by decide) (Nat.le_of_ble_eq_true rfl) rfl o_M_areSpots l_M_107 rfl (c_M_areSpots (fun hw => ?_) (fun hw => ?_)) <;> try dsimp only [psh])
            | (with_reducible refine T_if_eqN (tgt := 17) (pc1 := 8) (pc := 5) k_M_look_5 (by decide) (by decide) (by omega) (fun hc => ?_) (fun hc => ?_) <;> first | (exfalso; omega) | skip)
            | refine T_if_eq_t (tgt := 17) (pc := 5) k_M_look_5 rfl (by decide) ?_
            | refine T_if_eq_f (tgt := 17) (pc1 := 8) (pc := 5) k_M_look_5 rfl rfl (by decide) ?_
            | refine T_if_eq (tgt := 17) (pc1 := 8) (pc := 5) k_M_look_5 rfl rfl (fun hc => ?_) (fun hc => ?_)
            | refine T_iload_n (pc1 := 9) (pc := 8) k_M_look_8 rfl rfl ?_
            | refine T_iconst (v := (nI 0)) (pc1 := 10) (pc := 9) k_M_look_9 rfl (by decide) ?_
            | refine T_iconst (v := (nI 1)) (pc1 := 11) (pc := 10) k_M_look_10 rfl (by decide) ?_
            | (refine T_cS (As := [_, _, _]) (d1 := 1) (pc1 := 14) (pc := 11) k_M_look_11 rfl (by decide) (Nat.le_of_ble_eq_true rfl) rfl o_M_within l_M_95 rfl (c_M_within (fun hw => ?_) (fun hw => ?_)) <;> try dsimp only [psh])
            | (with_reducible refine T_if_neN (tgt := 20) (pc1 := 17) (pc := 14) k_M_look_14 (by decide) (by decide) (by omega) (fun hc => ?_) (fun hc => ?_) <;> first | (exfalso; omega) | skip)
            | refine T_if_ne_t (tgt := 20) (pc := 14) k_M_look_14 rfl (by decide) ?_
            | refine T_if_ne_f (tgt := 20) (pc1 := 17) (pc := 14) k_M_look_14 rfl rfl (by decide) ?_
            | refine T_if_ne (tgt := 20) (pc1 := 17) (pc := 14) k_M_look_14 rfl rfl (fun hc => ?_) (fun hc => ?_)
            | refine T_ldc (v := (-1000000001)) (pc1 := 19) (pc := 17) k_M_look_17 rfl c_M_111 ?_
            | refine T_retI (pc := 19) k_M_look_19 rfl (by first | rfl | decide | assumption) ?_
            | refine T_iconst (v := (-1)) (pc1 := 21) (pc := 20) k_M_look_20 rfl (by decide) ?_
            | refine T_istore (pc1 := 23) (pc := 21) k_M_look_21 rfl (Nat.le_of_ble_eq_true rfl) ?_
            | refine T_iconst (v := (nI 0)) (pc1 := 24) (pc := 23) k_M_look_23 rfl (by decide) ?_
            | refine T_istore (pc1 := 26) (pc := 24) k_M_look_24 rfl (Nat.le_of_ble_eq_true rfl) ?_
            | refine T_iconst (v := (nI 0)) (pc1 := 27) (pc := 26) k_M_look_26 rfl (by decide) ?_
            | refine T_istore (pc1 := 29) (pc := 27) k_M_look_27 rfl (Nat.le_of_ble_eq_true rfl) ?_
            | refine T_iload (pc1 := 31) (pc := 29) k_M_look_29 rfl rfl ?_
            | refine T_aload_n (pc1 := 32) (pc := 31) k_M_look_31 rfl rfl ?_
            | refine T_aload_nN (pc1 := 32) (pc := 31) k_M_look_31 rfl rfl ?_
            | refine T_getR (pc1 := 35) (pc := 32) k_M_look_32 rfl f_M_9 rfl (by first | exact ga G (by decide) rfl | assumption) (by first | exact gr G (by decide) rfl | assumption) ?_
            | refine T_iconst (v := (nI 5)) (pc1 := 36) (pc := 35) k_M_look_35 rfl (by decide) ?_
            | refine T_ialdN (pc1 := 37) (pc := 36) k_M_look_36 rfl (by first | exact ga G (by decide) rfl | assumption) (by omega) (by omega) (by first | assumption | (simp (disch := omega) only [pI_eq, pI_row, pI_col, va_up_self, va_up_ne, ne_eq, not_false_eq_true, hJN, hn] <;> rfl) | rfl) ?_
            | refine T_iald (pc1 := 37) (pc := 36) k_M_look_36 rfl (by first | exact ga G (by decide) rfl | assumption) (by assumption) ?_
            | (with_reducible refine T_icmp_geN (tgt := 119) (pc1 := 40) (pc := 37) k_M_look_37 (by decide) (by decide) (by omega) (by omega) (fun hc => ?_) (fun hc => ?_) <;> first | (exfalso; omega) | skip)
            | refine T_icmp_ge_t (tgt := 119) (pc := 37) k_M_look_37 rfl (by decide) ?_
            | refine T_icmp_ge_f (tgt := 119) (pc1 := 40) (pc := 37) k_M_look_37 rfl rfl (by decide) ?_
            | refine T_icmp_ge (tgt := 119) (pc1 := 40) (pc := 37) k_M_look_37 rfl rfl (fun hc => ?_) (fun hc => ?_)
            | refine T_aload_n (pc1 := 41) (pc := 40) k_M_look_40 rfl rfl ?_
            | refine T_aload_nN (pc1 := 41) (pc := 40) k_M_look_40 rfl rfl ?_
            | refine T_getR (pc1 := 44) (pc := 41) k_M_look_41 rfl f_M_9 rfl (by first | exact ga G (by decide) rfl | assumption) (by first | exact gr G (by decide) rfl | assumption) ?_
            | refine T_aload_n (pc1 := 45) (pc := 44) k_M_look_44 rfl rfl ?_
            | refine T_aload_nN (pc1 := 45) (pc := 44) k_M_look_44 rfl rfl ?_
            | refine T_getR (pc1 := 48) (pc := 45) k_M_look_45 rfl f_M_16 rfl (by first | exact ga G (by decide) rfl | assumption) (by first | exact gr G (by decide) rfl | assumption) ?_
            | refine T_sipush (v := (nI 156)) (pc1 := 51) (pc := 48) k_M_look_48 rfl (by decide) ?_
            | (refine T_cS (As := [_, _, _]) (d1 := 1) (pc1 := 54) (pc := 51) k_M_look_51 rfl (by decide) (Nat.le_of_ble_eq_true rfl) rfl o_M_copyRow l_M_91 rfl (c_M_copyRow (ga G (by decide) rfl) (ga G (by decide) rfl) (by omega) (by omega) (by omega) (by omega) (by decide) ?_) <;> try dsimp only [psh])
            | refine T_aload_n (pc1 := 55) (pc := 54) k_M_look_54 rfl rfl ?_
            | refine T_aload_nN (pc1 := 55) (pc := 54) k_M_look_54 rfl rfl ?_
            | refine T_getR (pc1 := 58) (pc := 55) k_M_look_55 rfl f_M_9 rfl (by first | exact ga G (by decide) rfl | assumption) (by first | exact gr G (by decide) rfl | assumption) ?_
            | refine T_bipush (v := (nI 12)) (pc1 := 60) (pc := 58) k_M_look_58 rfl (by decide) ?_
            | refine T_bipush (v := (nI 6)) (pc1 := 62) (pc := 60) k_M_look_60 rfl (by decide) ?_
            | refine T_iload (pc1 := 64) (pc := 62) k_M_look_62 rfl rfl ?_
            | with_reducible refine T_imulN (pc1 := 65) (pc := 64) k_M_look_64 (by decide) ?_
            | refine T_imul (pc1 := 65) (pc := 64) k_M_look_64 rfl ?_
            | with_reducible refine T_iaddN (pc1 := 66) (pc := 65) k_M_look_65 (by decide) ?_
            | refine T_iadd (pc1 := 66) (pc := 65) k_M_look_65 rfl ?_
            | refine T_iconst (v := (nI 5)) (pc1 := 67) (pc := 66) k_M_look_66 rfl (by decide) ?_
            | with_reducible refine T_iaddN (pc1 := 68) (pc := 67) k_M_look_67 (by decide) ?_
            | refine T_iadd (pc1 := 68) (pc := 67) k_M_look_67 rfl ?_
            | refine T_sipush (v := (nI 999)) (pc1 := 71) (pc := 68) k_M_look_68 rfl (by decide) ?_
            | refine T_aload_n (pc1 := 72) (pc := 71) k_M_look_71 rfl rfl ?_
            | refine T_aload_nN (pc1 := 72) (pc := 71) k_M_look_71 rfl rfl ?_
            | refine T_iload (pc1 := 74) (pc := 72) k_M_look_72 rfl rfl ?_
            | (refine T_cV (As := [_]) (d1 := 4) (pc1 := 77) (pc := 74) k_M_look_74 rfl (by decide) (Nat.le_of_ble_eq_true rfl) rfl o_M_takes l_M_143 rfl (by first | exact ga G (by decide) rfl | assumption) rfl (c_M_takes G (by assumption) (by assumption) (by assumption) (fun J hJ => ?_)) <;> try dsimp only [psh])
            | refine T_mminV (pc1 := 80) (pc := 77) k_M_look_77 rfl l_M_82 (by decide) (Nat.le_of_ble_eq_true rfl) (by with_reducible rfl) (by with_reducible rfl) (by omega) (by omega) ?_
            | refine T_mmin (pc1 := 80) (pc := 77) k_M_look_77 rfl l_M_82 (by decide) (Nat.le_of_ble_eq_true rfl) ?_
            | refine T_iastN (pc1 := 81) (pc := 80) k_M_look_80 rfl (by first | exact ga G (by decide) rfl | assumption) (by omega) (by omega) ?_
            | refine T_aload_n (pc1 := 82) (pc := 81) k_M_look_81 rfl rfl ?_
            | refine T_aload_nN (pc1 := 82) (pc := 81) k_M_look_81 rfl rfl ?_
            | refine T_aload_n (pc1 := 83) (pc := 82) k_M_look_82 rfl rfl ?_
            | refine T_aload_nN (pc1 := 83) (pc := 82) k_M_look_82 rfl rfl ?_
            | refine T_iload_n (pc1 := 84) (pc := 83) k_M_look_83 rfl rfl ?_
            | refine T_iload_n (pc1 := 85) (pc := 84) k_M_look_84 rfl rfl ?_
            | (refine T_cV (As := [_, _]) (d1 := 5) (pc1 := 88) (pc := 85) k_M_look_85 rfl (by decide) (Nat.le_of_ble_eq_true rfl) rfl o_M_walks l_M_174 rfl (by first | exact ga G (by decide) rfl | assumption) rfl (c_M_walks G hN ok ha hb (fun J hJ hJN => ?_)) <;> try dsimp only [psh])
            | (refine T_cV (As := [_]) (d1 := 2) (pc1 := 91) (pc := 88) k_M_look_88 rfl (by decide) (Nat.le_of_ble_eq_true rfl) rfl o_M_putBack l_M_183 rfl (by first | exact ga G (by decide) rfl | assumption) rfl (c_M_putBack G ?_) <;> try dsimp only [psh])
            | refine T_istore (pc1 := 93) (pc := 91) k_M_look_91 rfl (Nat.le_of_ble_eq_true rfl) ?_
            | refine T_iload (pc1 := 95) (pc := 93) k_M_look_93 rfl rfl ?_
            | (with_reducible refine T_if_ltN (tgt := 105) (pc1 := 98) (pc := 95) k_M_look_95 (by decide) (by decide) (by omega) ?_ <;> first | (exfalso; omega) | skip)
            | refine T_if_lt_t (tgt := 105) (pc := 95) k_M_look_95 rfl (by decide) ?_
            | refine T_if_lt_f (tgt := 105) (pc1 := 98) (pc := 95) k_M_look_95 rfl rfl (by decide) ?_
            | refine T_if_lt (tgt := 105) (pc1 := 98) (pc := 95) k_M_look_95 rfl rfl (fun hc => ?_) (fun hc => ?_)
            | refine T_iload (pc1 := 100) (pc := 98) k_M_look_98 rfl rfl ?_
            | refine T_iload (pc1 := 102) (pc := 100) k_M_look_100 rfl rfl ?_
            | (with_reducible refine T_icmp_geN (tgt := 113) (pc1 := 105) (pc := 102) k_M_look_102 (by decide) (by decide) (by omega) (by omega) (fun hc => ?_) (fun hc => ?_) <;> first | (exfalso; omega) | skip)
            | refine T_icmp_ge_t (tgt := 113) (pc := 102) k_M_look_102 rfl (by decide) ?_
            | refine T_icmp_ge_f (tgt := 113) (pc1 := 105) (pc := 102) k_M_look_102 rfl rfl (by decide) ?_
            | refine T_icmp_ge (tgt := 113) (pc1 := 105) (pc := 102) k_M_look_102 rfl rfl (fun hc => ?_) (fun hc => ?_)
            | refine T_iload (pc1 := 107) (pc := 105) k_M_look_105 rfl rfl ?_
            | refine T_istore (pc1 := 109) (pc := 107) k_M_look_107 rfl (Nat.le_of_ble_eq_true rfl) ?_
            | refine T_iload (pc1 := 111) (pc := 109) k_M_look_109 rfl rfl ?_
            | refine T_istore (pc1 := 113) (pc := 111) k_M_look_111 rfl (Nat.le_of_ble_eq_true rfl) ?_
            | refine T_iincN (b := 1) (pc1 := 116) (pc := 113) k_M_look_113 rfl rfl (by decide) ?_
            | refine T_iinc (v := (nI 1)) (pc1 := 116) (pc := 113) k_M_look_113 rfl rfl (by decide) ?_
            | refine T_goto (tgt := 29) (pc := 116) k_M_look_116 rfl ?_
            | refine T_iload (pc1 := 121) (pc := 119) k_M_look_119 rfl rfl ?_
            | (with_reducible refine T_if_geN (tgt := 129) (pc1 := 124) (pc := 121) k_M_look_121 (by decide) (by decide) (by omega) ?_ <;> first | (exfalso; omega) | skip)
            | refine T_if_ge_t (tgt := 129) (pc := 121) k_M_look_121 rfl (by decide) ?_
            | refine T_if_ge_f (tgt := 129) (pc1 := 124) (pc := 121) k_M_look_121 rfl rfl (by decide) ?_
            | refine T_if_ge (tgt := 129) (pc1 := 124) (pc := 121) k_M_look_121 rfl rfl (fun hc => ?_) (fun hc => ?_)
            | refine T_ldc (v := (-1000000005)) (pc1 := 126) (pc := 124) k_M_look_124 rfl c_M_103 ?_
            | refine T_goto (tgt := 140) (pc := 126) k_M_look_126 rfl ?_
            | refine T_iload_n (pc1 := 130) (pc := 129) k_M_look_129 rfl rfl ?_
            | (with_reducible refine T_if_neN (tgt := 138) (pc1 := 133) (pc := 130) k_M_look_130 (by decide) (by decide) (by omega) (fun hc => ?_) (fun hc => ?_) <;> first | (exfalso; omega) | skip)
            | refine T_if_ne_t (tgt := 138) (pc := 130) k_M_look_130 rfl (by decide) ?_
            | refine T_if_ne_f (tgt := 138) (pc1 := 133) (pc := 130) k_M_look_130 rfl rfl (by decide) ?_
            | refine T_if_ne (tgt := 138) (pc1 := 133) (pc := 130) k_M_look_130 rfl rfl (fun hc => ?_) (fun hc => ?_)
            | refine T_iload (pc1 := 135) (pc := 133) k_M_look_133 rfl rfl ?_
            | refine T_goto (tgt := 140) (pc := 135) k_M_look_135 rfl ?_
            | refine T_iload (pc1 := 140) (pc := 138) k_M_look_138 rfl rfl ?_
            | refine T_retI (pc := 140) k_M_look_140 rfl (by first | rfl | decide | assumption) ?_)
          exact kk
        | some p =>
          rw [hl] at hs kk
          dsimp only at hs kk
          obtain ⟨rfl, rfl, hp1, hp2⟩ := hs
          repeat' (first
            | refine T_iload_n (pc1 := 1) (pc := 0) k_M_look_0 rfl rfl ?_
            | refine T_iload_n (pc1 := 2) (pc := 1) k_M_look_1 rfl rfl ?_
            | (refine T_cS (As := [_, _]) (d1 := 3) (pc1 := 5) (pc := 2) k_M_look_2 rfl (by decide) (Nat.le_of_ble_eq_true rfl) rfl o_M_areSpots l_M_107 rfl (c_M_areSpots (fun hw => ?_) (fun hw => ?_)) <;> try dsimp only [psh])
            | (with_reducible refine T_if_eqN (tgt := 17) (pc1 := 8) (pc := 5) k_M_look_5 (by decide) (by decide) (by omega) (fun hc => ?_) (fun hc => ?_) <;> first | (exfalso; omega) | skip)
            | refine T_if_eq_t (tgt := 17) (pc := 5) k_M_look_5 rfl (by decide) ?_
            | refine T_if_eq_f (tgt := 17) (pc1 := 8) (pc := 5) k_M_look_5 rfl rfl (by decide) ?_
            | refine T_if_eq (tgt := 17) (pc1 := 8) (pc := 5) k_M_look_5 rfl rfl (fun hc => ?_) (fun hc => ?_)
            | refine T_iload_n (pc1 := 9) (pc := 8) k_M_look_8 rfl rfl ?_
            | refine T_iconst (v := (nI 0)) (pc1 := 10) (pc := 9) k_M_look_9 rfl (by decide) ?_
            | refine T_iconst (v := (nI 1)) (pc1 := 11) (pc := 10) k_M_look_10 rfl (by decide) ?_
            | (refine T_cS (As := [_, _, _]) (d1 := 1) (pc1 := 14) (pc := 11) k_M_look_11 rfl (by decide) (Nat.le_of_ble_eq_true rfl) rfl o_M_within l_M_95 rfl (c_M_within (fun hw => ?_) (fun hw => ?_)) <;> try dsimp only [psh])
            | (with_reducible refine T_if_neN (tgt := 20) (pc1 := 17) (pc := 14) k_M_look_14 (by decide) (by decide) (by omega) (fun hc => ?_) (fun hc => ?_) <;> first | (exfalso; omega) | skip)
            | refine T_if_ne_t (tgt := 20) (pc := 14) k_M_look_14 rfl (by decide) ?_
            | refine T_if_ne_f (tgt := 20) (pc1 := 17) (pc := 14) k_M_look_14 rfl rfl (by decide) ?_
            | refine T_if_ne (tgt := 20) (pc1 := 17) (pc := 14) k_M_look_14 rfl rfl (fun hc => ?_) (fun hc => ?_)
            | refine T_ldc (v := (-1000000001)) (pc1 := 19) (pc := 17) k_M_look_17 rfl c_M_111 ?_
            | refine T_retI (pc := 19) k_M_look_19 rfl (by first | rfl | decide | assumption) ?_
            | refine T_iconst (v := (-1)) (pc1 := 21) (pc := 20) k_M_look_20 rfl (by decide) ?_
            | refine T_istore (pc1 := 23) (pc := 21) k_M_look_21 rfl (Nat.le_of_ble_eq_true rfl) ?_
            | refine T_iconst (v := (nI 0)) (pc1 := 24) (pc := 23) k_M_look_23 rfl (by decide) ?_
            | refine T_istore (pc1 := 26) (pc := 24) k_M_look_24 rfl (Nat.le_of_ble_eq_true rfl) ?_
            | refine T_iconst (v := (nI 0)) (pc1 := 27) (pc := 26) k_M_look_26 rfl (by decide) ?_
            | refine T_istore (pc1 := 29) (pc := 27) k_M_look_27 rfl (Nat.le_of_ble_eq_true rfl) ?_
            | refine T_iload (pc1 := 31) (pc := 29) k_M_look_29 rfl rfl ?_
            | refine T_aload_n (pc1 := 32) (pc := 31) k_M_look_31 rfl rfl ?_
            | refine T_aload_nN (pc1 := 32) (pc := 31) k_M_look_31 rfl rfl ?_
            | refine T_getR (pc1 := 35) (pc := 32) k_M_look_32 rfl f_M_9 rfl (by first | exact ga G (by decide) rfl | assumption) (by first | exact gr G (by decide) rfl | assumption) ?_
            | refine T_iconst (v := (nI 5)) (pc1 := 36) (pc := 35) k_M_look_35 rfl (by decide) ?_
            | refine T_ialdN (pc1 := 37) (pc := 36) k_M_look_36 rfl (by first | exact ga G (by decide) rfl | assumption) (by omega) (by omega) (by first | assumption | (simp (disch := omega) only [pI_eq, pI_row, pI_col, va_up_self, va_up_ne, ne_eq, not_false_eq_true, hJN, hn] <;> rfl) | rfl) ?_
            | refine T_iald (pc1 := 37) (pc := 36) k_M_look_36 rfl (by first | exact ga G (by decide) rfl | assumption) (by assumption) ?_
            | (with_reducible refine T_icmp_geN (tgt := 119) (pc1 := 40) (pc := 37) k_M_look_37 (by decide) (by decide) (by omega) (by omega) (fun hc => ?_) (fun hc => ?_) <;> first | (exfalso; omega) | skip)
            | refine T_icmp_ge_t (tgt := 119) (pc := 37) k_M_look_37 rfl (by decide) ?_
            | refine T_icmp_ge_f (tgt := 119) (pc1 := 40) (pc := 37) k_M_look_37 rfl rfl (by decide) ?_
            | refine T_icmp_ge (tgt := 119) (pc1 := 40) (pc := 37) k_M_look_37 rfl rfl (fun hc => ?_) (fun hc => ?_)
            | refine T_aload_n (pc1 := 41) (pc := 40) k_M_look_40 rfl rfl ?_
            | refine T_aload_nN (pc1 := 41) (pc := 40) k_M_look_40 rfl rfl ?_
            | refine T_getR (pc1 := 44) (pc := 41) k_M_look_41 rfl f_M_9 rfl (by first | exact ga G (by decide) rfl | assumption) (by first | exact gr G (by decide) rfl | assumption) ?_
            | refine T_aload_n (pc1 := 45) (pc := 44) k_M_look_44 rfl rfl ?_
            | refine T_aload_nN (pc1 := 45) (pc := 44) k_M_look_44 rfl rfl ?_
            | refine T_getR (pc1 := 48) (pc := 45) k_M_look_45 rfl f_M_16 rfl (by first | exact ga G (by decide) rfl | assumption) (by first | exact gr G (by decide) rfl | assumption) ?_
            | refine T_sipush (v := (nI 156)) (pc1 := 51) (pc := 48) k_M_look_48 rfl (by decide) ?_
            | (refine T_cS (As := [_, _, _]) (d1 := 1) (pc1 := 54) (pc := 51) k_M_look_51 rfl (by decide) (Nat.le_of_ble_eq_true rfl) rfl o_M_copyRow l_M_91 rfl (c_M_copyRow (ga G (by decide) rfl) (ga G (by decide) rfl) (by omega) (by omega) (by omega) (by omega) (by decide) ?_) <;> try dsimp only [psh])
            | refine T_aload_n (pc1 := 55) (pc := 54) k_M_look_54 rfl rfl ?_
            | refine T_aload_nN (pc1 := 55) (pc := 54) k_M_look_54 rfl rfl ?_
            | refine T_getR (pc1 := 58) (pc := 55) k_M_look_55 rfl f_M_9 rfl (by first | exact ga G (by decide) rfl | assumption) (by first | exact gr G (by decide) rfl | assumption) ?_
            | refine T_bipush (v := (nI 12)) (pc1 := 60) (pc := 58) k_M_look_58 rfl (by decide) ?_
            | refine T_bipush (v := (nI 6)) (pc1 := 62) (pc := 60) k_M_look_60 rfl (by decide) ?_
            | refine T_iload (pc1 := 64) (pc := 62) k_M_look_62 rfl rfl ?_
            | with_reducible refine T_imulN (pc1 := 65) (pc := 64) k_M_look_64 (by decide) ?_
            | refine T_imul (pc1 := 65) (pc := 64) k_M_look_64 rfl ?_
            | with_reducible refine T_iaddN (pc1 := 66) (pc := 65) k_M_look_65 (by decide) ?_
            | refine T_iadd (pc1 := 66) (pc := 65) k_M_look_65 rfl ?_
            | refine T_iconst (v := (nI 5)) (pc1 := 67) (pc := 66) k_M_look_66 rfl (by decide) ?_
            | with_reducible refine T_iaddN (pc1 := 68) (pc := 67) k_M_look_67 (by decide) ?_
            | refine T_iadd (pc1 := 68) (pc := 67) k_M_look_67 rfl ?_
            | refine T_sipush (v := (nI 999)) (pc1 := 71) (pc := 68) k_M_look_68 rfl (by decide) ?_
            | refine T_aload_n (pc1 := 72) (pc := 71) k_M_look_71 rfl rfl ?_
            | refine T_aload_nN (pc1 := 72) (pc := 71) k_M_look_71 rfl rfl ?_
            | refine T_iload (pc1 := 74) (pc := 72) k_M_look_72 rfl rfl ?_
            | (refine T_cV (As := [_]) (d1 := 4) (pc1 := 77) (pc := 74) k_M_look_74 rfl (by decide) (Nat.le_of_ble_eq_true rfl) rfl o_M_takes l_M_143 rfl (by first | exact ga G (by decide) rfl | assumption) rfl (c_M_takes G (by assumption) (by assumption) (by assumption) (fun J hJ => ?_)) <;> try dsimp only [psh])
            | refine T_mminV (pc1 := 80) (pc := 77) k_M_look_77 rfl l_M_82 (by decide) (Nat.le_of_ble_eq_true rfl) (by with_reducible rfl) (by with_reducible rfl) (by omega) (by omega) ?_
            | refine T_mmin (pc1 := 80) (pc := 77) k_M_look_77 rfl l_M_82 (by decide) (Nat.le_of_ble_eq_true rfl) ?_
            | refine T_iastN (pc1 := 81) (pc := 80) k_M_look_80 rfl (by first | exact ga G (by decide) rfl | assumption) (by omega) (by omega) ?_
            | refine T_aload_n (pc1 := 82) (pc := 81) k_M_look_81 rfl rfl ?_
            | refine T_aload_nN (pc1 := 82) (pc := 81) k_M_look_81 rfl rfl ?_
            | refine T_aload_n (pc1 := 83) (pc := 82) k_M_look_82 rfl rfl ?_
            | refine T_aload_nN (pc1 := 83) (pc := 82) k_M_look_82 rfl rfl ?_
            | refine T_iload_n (pc1 := 84) (pc := 83) k_M_look_83 rfl rfl ?_
            | refine T_iload_n (pc1 := 85) (pc := 84) k_M_look_84 rfl rfl ?_
            | (refine T_cV (As := [_, _]) (d1 := 5) (pc1 := 88) (pc := 85) k_M_look_85 rfl (by decide) (Nat.le_of_ble_eq_true rfl) rfl o_M_walks l_M_174 rfl (by first | exact ga G (by decide) rfl | assumption) rfl (c_M_walks G hN ok ha hb (fun J hJ hJN => ?_)) <;> try dsimp only [psh])
            | (refine T_cV (As := [_]) (d1 := 2) (pc1 := 91) (pc := 88) k_M_look_88 rfl (by decide) (Nat.le_of_ble_eq_true rfl) rfl o_M_putBack l_M_183 rfl (by first | exact ga G (by decide) rfl | assumption) rfl (c_M_putBack G ?_) <;> try dsimp only [psh])
            | refine T_istore (pc1 := 93) (pc := 91) k_M_look_91 rfl (Nat.le_of_ble_eq_true rfl) ?_
            | refine T_iload (pc1 := 95) (pc := 93) k_M_look_93 rfl rfl ?_
            | (with_reducible refine T_if_ltN (tgt := 105) (pc1 := 98) (pc := 95) k_M_look_95 (by decide) (by decide) (by omega) ?_ <;> first | (exfalso; omega) | skip)
            | refine T_if_lt_t (tgt := 105) (pc := 95) k_M_look_95 rfl (by decide) ?_
            | refine T_if_lt_f (tgt := 105) (pc1 := 98) (pc := 95) k_M_look_95 rfl rfl (by decide) ?_
            | refine T_if_lt (tgt := 105) (pc1 := 98) (pc := 95) k_M_look_95 rfl rfl (fun hc => ?_) (fun hc => ?_)
            | refine T_iload (pc1 := 100) (pc := 98) k_M_look_98 rfl rfl ?_
            | refine T_iload (pc1 := 102) (pc := 100) k_M_look_100 rfl rfl ?_
            | (with_reducible refine T_icmp_geN (tgt := 113) (pc1 := 105) (pc := 102) k_M_look_102 (by decide) (by decide) (by omega) (by omega) (fun hc => ?_) (fun hc => ?_) <;> first | (exfalso; omega) | skip)
            | refine T_icmp_ge_t (tgt := 113) (pc := 102) k_M_look_102 rfl (by decide) ?_
            | refine T_icmp_ge_f (tgt := 113) (pc1 := 105) (pc := 102) k_M_look_102 rfl rfl (by decide) ?_
            | refine T_icmp_ge (tgt := 113) (pc1 := 105) (pc := 102) k_M_look_102 rfl rfl (fun hc => ?_) (fun hc => ?_)
            | refine T_iload (pc1 := 107) (pc := 105) k_M_look_105 rfl rfl ?_
            | refine T_istore (pc1 := 109) (pc := 107) k_M_look_107 rfl (Nat.le_of_ble_eq_true rfl) ?_
            | refine T_iload (pc1 := 111) (pc := 109) k_M_look_109 rfl rfl ?_
            | refine T_istore (pc1 := 113) (pc := 111) k_M_look_111 rfl (Nat.le_of_ble_eq_true rfl) ?_
            | refine T_iincN (b := 1) (pc1 := 116) (pc := 113) k_M_look_113 rfl rfl (by decide) ?_
            | refine T_iinc (v := (nI 1)) (pc1 := 116) (pc := 113) k_M_look_113 rfl rfl (by decide) ?_
            | refine T_goto (tgt := 29) (pc := 116) k_M_look_116 rfl ?_
            | refine T_iload (pc1 := 121) (pc := 119) k_M_look_119 rfl rfl ?_
            | (with_reducible refine T_if_geN (tgt := 129) (pc1 := 124) (pc := 121) k_M_look_121 (by decide) (by decide) (by omega) ?_ <;> first | (exfalso; omega) | skip)
            | refine T_if_ge_t (tgt := 129) (pc := 121) k_M_look_121 rfl (by decide) ?_
            | refine T_if_ge_f (tgt := 129) (pc1 := 124) (pc := 121) k_M_look_121 rfl rfl (by decide) ?_
            | refine T_if_ge (tgt := 129) (pc1 := 124) (pc := 121) k_M_look_121 rfl rfl (fun hc => ?_) (fun hc => ?_)
            | refine T_ldc (v := (-1000000005)) (pc1 := 126) (pc := 124) k_M_look_124 rfl c_M_103 ?_
            | refine T_goto (tgt := 140) (pc := 126) k_M_look_126 rfl ?_
            | refine T_iload_n (pc1 := 130) (pc := 129) k_M_look_129 rfl rfl ?_
            | (with_reducible refine T_if_neN (tgt := 138) (pc1 := 133) (pc := 130) k_M_look_130 (by decide) (by decide) (by omega) (fun hc => ?_) (fun hc => ?_) <;> first | (exfalso; omega) | skip)
            | refine T_if_ne_t (tgt := 138) (pc := 130) k_M_look_130 rfl (by decide) ?_
            | refine T_if_ne_f (tgt := 138) (pc1 := 133) (pc := 130) k_M_look_130 rfl rfl (by decide) ?_
            | refine T_if_ne (tgt := 138) (pc1 := 133) (pc := 130) k_M_look_130 rfl rfl (fun hc => ?_) (fun hc => ?_)
            | refine T_iload (pc1 := 135) (pc := 133) k_M_look_133 rfl rfl ?_
            | refine T_goto (tgt := 140) (pc := 135) k_M_look_135 rfl ?_
            | refine T_iload (pc1 := 140) (pc := 138) k_M_look_138 rfl rfl ?_
            | refine T_retI (pc := 140) k_M_look_140 rfl (by first | rfl | decide | assumption) ?_)
          · rw [if_neg (fun q => by have := (nI_eq (by omega) (by omega)).mp q; omega)] at kk
            exact kk
          · rw [if_pos (by congr 1; omega)] at kk
            exact kk
      | succ q ih =>
        intro b b0 l0 o7 J hb hJ hs
        have hbn : b < n := by omega
        have hJN : J 102 = N := (hJ 102 (by decide)).trans hN
        have htk := tkk_eq ok hbn
        have oks := okL_said (s := min 999 (tkk N tn b)) ok hbn (by omega)
        obtain ⟨ok3, ok4, ok5⟩ := wkN_ok (fr := fr) (to0 := to0) oks hf ht
        have hlm : wkM (va_up N (12 + 6 * b + 5) (nI (min 999 (tkk N tn b)))) n tn fr to0 = lkM N n tn fr to0 b := rfl
        rw [hlm] at ok5
        have ih := ih (b + 1)
        unfold lkS at ih hs
        rw [sel] at ih
        have hcp : va_up J 104 (cpy 156 (J 102) (J 104)) 102 = N := by rw [va_up_ne _ _ (by decide)]; exact hJN
        refine T_iload (pc1 := 31) (pc := 29) k_M_look_29 rfl rfl ?_
        repeat' (first
          | refine T_iload_n (pc1 := 1) (pc := 0) k_M_look_0 rfl rfl ?_
          | refine T_iload_n (pc1 := 2) (pc := 1) k_M_look_1 rfl rfl ?_
          | (refine T_cS (As := [_, _]) (d1 := 3) (pc1 := 5) (pc := 2) k_M_look_2 rfl (by decide) (Nat.le_of_ble_eq_true rfl) rfl o_M_areSpots l_M_107 rfl (c_M_areSpots (fun hw => ?_) (fun hw => ?_)) <;> try dsimp only [psh])
          | (with_reducible refine T_if_eqN (tgt := 17) (pc1 := 8) (pc := 5) k_M_look_5 (by decide) (by decide) (by omega) (fun hc => ?_) (fun hc => ?_) <;> first | (exfalso; omega) | skip)
          | refine T_if_eq_t (tgt := 17) (pc := 5) k_M_look_5 rfl (by decide) ?_
          | refine T_if_eq_f (tgt := 17) (pc1 := 8) (pc := 5) k_M_look_5 rfl rfl (by decide) ?_
          | refine T_if_eq (tgt := 17) (pc1 := 8) (pc := 5) k_M_look_5 rfl rfl (fun hc => ?_) (fun hc => ?_)
          | refine T_iload_n (pc1 := 9) (pc := 8) k_M_look_8 rfl rfl ?_
          | refine T_iconst (v := (nI 0)) (pc1 := 10) (pc := 9) k_M_look_9 rfl (by decide) ?_
          | refine T_iconst (v := (nI 1)) (pc1 := 11) (pc := 10) k_M_look_10 rfl (by decide) ?_
          | (refine T_cS (As := [_, _, _]) (d1 := 1) (pc1 := 14) (pc := 11) k_M_look_11 rfl (by decide) (Nat.le_of_ble_eq_true rfl) rfl o_M_within l_M_95 rfl (c_M_within (fun hw => ?_) (fun hw => ?_)) <;> try dsimp only [psh])
          | (with_reducible refine T_if_neN (tgt := 20) (pc1 := 17) (pc := 14) k_M_look_14 (by decide) (by decide) (by omega) (fun hc => ?_) (fun hc => ?_) <;> first | (exfalso; omega) | skip)
          | refine T_if_ne_t (tgt := 20) (pc := 14) k_M_look_14 rfl (by decide) ?_
          | refine T_if_ne_f (tgt := 20) (pc1 := 17) (pc := 14) k_M_look_14 rfl rfl (by decide) ?_
          | refine T_if_ne (tgt := 20) (pc1 := 17) (pc := 14) k_M_look_14 rfl rfl (fun hc => ?_) (fun hc => ?_)
          | refine T_ldc (v := (-1000000001)) (pc1 := 19) (pc := 17) k_M_look_17 rfl c_M_111 ?_
          | refine T_retI (pc := 19) k_M_look_19 rfl (by first | rfl | decide | assumption) ?_
          | refine T_iconst (v := (-1)) (pc1 := 21) (pc := 20) k_M_look_20 rfl (by decide) ?_
          | refine T_istore (pc1 := 23) (pc := 21) k_M_look_21 rfl (Nat.le_of_ble_eq_true rfl) ?_
          | refine T_iconst (v := (nI 0)) (pc1 := 24) (pc := 23) k_M_look_23 rfl (by decide) ?_
          | refine T_istore (pc1 := 26) (pc := 24) k_M_look_24 rfl (Nat.le_of_ble_eq_true rfl) ?_
          | refine T_iconst (v := (nI 0)) (pc1 := 27) (pc := 26) k_M_look_26 rfl (by decide) ?_
          | refine T_istore (pc1 := 29) (pc := 27) k_M_look_27 rfl (Nat.le_of_ble_eq_true rfl) ?_
          | refine T_aload_n (pc1 := 32) (pc := 31) k_M_look_31 rfl rfl ?_
          | refine T_aload_nN (pc1 := 32) (pc := 31) k_M_look_31 rfl rfl ?_
          | refine T_getR (pc1 := 35) (pc := 32) k_M_look_32 rfl f_M_9 rfl (by first | exact ga G (by decide) rfl | assumption) (by first | exact gr G (by decide) rfl | assumption) ?_
          | refine T_iconst (v := (nI 5)) (pc1 := 36) (pc := 35) k_M_look_35 rfl (by decide) ?_
          | refine T_ialdN (pc1 := 37) (pc := 36) k_M_look_36 rfl (by first | exact ga G (by decide) rfl | assumption) (by omega) (by omega) (by first | assumption | (simp (disch := omega) only [pI_eq, pI_row, pI_col, va_up_self, va_up_ne, ne_eq, not_false_eq_true, hJN, hn] <;> rfl) | rfl) ?_
          | refine T_iald (pc1 := 37) (pc := 36) k_M_look_36 rfl (by first | exact ga G (by decide) rfl | assumption) (by assumption) ?_
          | (with_reducible refine T_icmp_geN (tgt := 119) (pc1 := 40) (pc := 37) k_M_look_37 (by decide) (by decide) (by omega) (by omega) (fun hc => ?_) (fun hc => ?_) <;> first | (exfalso; omega) | skip)
          | refine T_icmp_ge_t (tgt := 119) (pc := 37) k_M_look_37 rfl (by decide) ?_
          | refine T_icmp_ge_f (tgt := 119) (pc1 := 40) (pc := 37) k_M_look_37 rfl rfl (by decide) ?_
          | refine T_icmp_ge (tgt := 119) (pc1 := 40) (pc := 37) k_M_look_37 rfl rfl (fun hc => ?_) (fun hc => ?_)
          | refine T_aload_n (pc1 := 41) (pc := 40) k_M_look_40 rfl rfl ?_
          | refine T_aload_nN (pc1 := 41) (pc := 40) k_M_look_40 rfl rfl ?_
          | refine T_getR (pc1 := 44) (pc := 41) k_M_look_41 rfl f_M_9 rfl (by first | exact ga G (by decide) rfl | assumption) (by first | exact gr G (by decide) rfl | assumption) ?_
          | refine T_aload_n (pc1 := 45) (pc := 44) k_M_look_44 rfl rfl ?_
          | refine T_aload_nN (pc1 := 45) (pc := 44) k_M_look_44 rfl rfl ?_
          | refine T_getR (pc1 := 48) (pc := 45) k_M_look_45 rfl f_M_16 rfl (by first | exact ga G (by decide) rfl | assumption) (by first | exact gr G (by decide) rfl | assumption) ?_
          | refine T_sipush (v := (nI 156)) (pc1 := 51) (pc := 48) k_M_look_48 rfl (by decide) ?_
          | (refine T_cS (As := [_, _, _]) (d1 := 1) (pc1 := 54) (pc := 51) k_M_look_51 rfl (by decide) (Nat.le_of_ble_eq_true rfl) rfl o_M_copyRow l_M_91 rfl (c_M_copyRow (ga G (by decide) rfl) (ga G (by decide) rfl) (by omega) (by omega) (by omega) (by omega) (by decide) ?_) <;> try dsimp only [psh])
          | refine T_aload_n (pc1 := 55) (pc := 54) k_M_look_54 rfl rfl ?_
          | refine T_aload_nN (pc1 := 55) (pc := 54) k_M_look_54 rfl rfl ?_
          | refine T_getR (pc1 := 58) (pc := 55) k_M_look_55 rfl f_M_9 rfl (by first | exact ga G (by decide) rfl | assumption) (by first | exact gr G (by decide) rfl | assumption) ?_
          | refine T_bipush (v := (nI 12)) (pc1 := 60) (pc := 58) k_M_look_58 rfl (by decide) ?_
          | refine T_bipush (v := (nI 6)) (pc1 := 62) (pc := 60) k_M_look_60 rfl (by decide) ?_
          | refine T_iload (pc1 := 64) (pc := 62) k_M_look_62 rfl rfl ?_
          | with_reducible refine T_imulN (pc1 := 65) (pc := 64) k_M_look_64 (by decide) ?_
          | refine T_imul (pc1 := 65) (pc := 64) k_M_look_64 rfl ?_
          | with_reducible refine T_iaddN (pc1 := 66) (pc := 65) k_M_look_65 (by decide) ?_
          | refine T_iadd (pc1 := 66) (pc := 65) k_M_look_65 rfl ?_
          | refine T_iconst (v := (nI 5)) (pc1 := 67) (pc := 66) k_M_look_66 rfl (by decide) ?_
          | with_reducible refine T_iaddN (pc1 := 68) (pc := 67) k_M_look_67 (by decide) ?_
          | refine T_iadd (pc1 := 68) (pc := 67) k_M_look_67 rfl ?_
          | refine T_sipush (v := (nI 999)) (pc1 := 71) (pc := 68) k_M_look_68 rfl (by decide) ?_
          | refine T_aload_n (pc1 := 72) (pc := 71) k_M_look_71 rfl rfl ?_
          | refine T_aload_nN (pc1 := 72) (pc := 71) k_M_look_71 rfl rfl ?_
          | refine T_iload (pc1 := 74) (pc := 72) k_M_look_72 rfl rfl ?_
          | (refine T_cV (As := [_]) (d1 := 4) (pc1 := 77) (pc := 74) k_M_look_74 rfl (by decide) (Nat.le_of_ble_eq_true rfl) rfl o_M_takes l_M_143 rfl (by first | exact ga G (by decide) rfl | assumption) rfl (c_M_takesN G hcp ok hbn (fun J2 hJ2 => ?_)) <;> try dsimp only [psh])
          | refine T_mminV (pc1 := 80) (pc := 77) k_M_look_77 rfl l_M_82 (by decide) (Nat.le_of_ble_eq_true rfl) (by with_reducible rfl) (by with_reducible rfl) (by omega) (by omega) ?_
          | refine T_mmin (pc1 := 80) (pc := 77) k_M_look_77 rfl l_M_82 (by decide) (Nat.le_of_ble_eq_true rfl) ?_
          | refine T_iastN (pc1 := 81) (pc := 80) k_M_look_80 rfl (by first | exact ga G (by decide) rfl | assumption) (by omega) (by omega) ?_
          | refine T_aload_n (pc1 := 82) (pc := 81) k_M_look_81 rfl rfl ?_
          | refine T_aload_nN (pc1 := 82) (pc := 81) k_M_look_81 rfl rfl ?_
          | refine T_aload_n (pc1 := 83) (pc := 82) k_M_look_82 rfl rfl ?_
          | refine T_aload_nN (pc1 := 83) (pc := 82) k_M_look_82 rfl rfl ?_
          | refine T_iload_n (pc1 := 84) (pc := 83) k_M_look_83 rfl rfl ?_
          | refine T_iload_n (pc1 := 85) (pc := 84) k_M_look_84 rfl rfl ?_
          | (refine T_cV (As := [_, _]) (d1 := 5) (pc1 := 88) (pc := 85) k_M_look_85 rfl (by decide) (Nat.le_of_ble_eq_true rfl) rfl o_M_walks l_M_174 rfl (by first | exact ga G (by decide) rfl | assumption) rfl (c_M_walks G (upI ((hJ2 102 (by decide)).trans hcp)) oks hf ht (fun J3 hJ3 hJ3N => ?_)) <;> try dsimp only [psh])
          | (refine T_cV (As := [_]) (d1 := 2) (pc1 := 91) (pc := 88) k_M_look_88 rfl (by decide) (Nat.le_of_ble_eq_true rfl) rfl o_M_putBack l_M_183 rfl (by first | exact ga G (by decide) rfl | assumption) rfl (c_M_putBack G ?_) <;> try dsimp only [psh])
          | refine T_iload (pc1 := 95) (pc := 93) k_M_look_93 rfl rfl ?_
          | (with_reducible refine T_if_ltN (tgt := 105) (pc1 := 98) (pc := 95) k_M_look_95 (by decide) (by decide) (by omega) ?_ <;> first | (exfalso; omega) | skip)
          | refine T_if_lt_t (tgt := 105) (pc := 95) k_M_look_95 rfl (by decide) ?_
          | refine T_if_lt_f (tgt := 105) (pc1 := 98) (pc := 95) k_M_look_95 rfl rfl (by decide) ?_
          | refine T_if_lt (tgt := 105) (pc1 := 98) (pc := 95) k_M_look_95 rfl rfl (fun hc => ?_) (fun hc => ?_)
          | refine T_iload (pc1 := 100) (pc := 98) k_M_look_98 rfl rfl ?_
          | refine T_iload (pc1 := 102) (pc := 100) k_M_look_100 rfl rfl ?_
          | (with_reducible refine T_icmp_geN (tgt := 113) (pc1 := 105) (pc := 102) k_M_look_102 (by decide) (by decide) (by omega) (by omega) (fun hc => ?_) (fun hc => ?_) <;> first | (exfalso; omega) | skip)
          | refine T_icmp_ge_t (tgt := 113) (pc := 102) k_M_look_102 rfl (by decide) ?_
          | refine T_icmp_ge_f (tgt := 113) (pc1 := 105) (pc := 102) k_M_look_102 rfl rfl (by decide) ?_
          | refine T_icmp_ge (tgt := 113) (pc1 := 105) (pc := 102) k_M_look_102 rfl rfl (fun hc => ?_) (fun hc => ?_)
          | refine T_iload (pc1 := 107) (pc := 105) k_M_look_105 rfl rfl ?_
          | refine T_istore (pc1 := 109) (pc := 107) k_M_look_107 rfl (Nat.le_of_ble_eq_true rfl) ?_
          | refine T_iload (pc1 := 111) (pc := 109) k_M_look_109 rfl rfl ?_
          | refine T_istore (pc1 := 113) (pc := 111) k_M_look_111 rfl (Nat.le_of_ble_eq_true rfl) ?_
          | refine T_iincN (b := 1) (pc1 := 116) (pc := 113) k_M_look_113 rfl rfl (by decide) ?_
          | refine T_iinc (v := (nI 1)) (pc1 := 116) (pc := 113) k_M_look_113 rfl rfl (by decide) ?_
          | refine T_goto (tgt := 29) (pc := 116) k_M_look_116 rfl ?_
          | refine T_iload (pc1 := 121) (pc := 119) k_M_look_119 rfl rfl ?_
          | (with_reducible refine T_if_geN (tgt := 129) (pc1 := 124) (pc := 121) k_M_look_121 (by decide) (by decide) (by omega) ?_ <;> first | (exfalso; omega) | skip)
          | refine T_if_ge_t (tgt := 129) (pc := 121) k_M_look_121 rfl (by decide) ?_
          | refine T_if_ge_f (tgt := 129) (pc1 := 124) (pc := 121) k_M_look_121 rfl rfl (by decide) ?_
          | refine T_if_ge (tgt := 129) (pc1 := 124) (pc := 121) k_M_look_121 rfl rfl (fun hc => ?_) (fun hc => ?_)
          | refine T_ldc (v := (-1000000005)) (pc1 := 126) (pc := 124) k_M_look_124 rfl c_M_103 ?_
          | refine T_goto (tgt := 140) (pc := 126) k_M_look_126 rfl ?_
          | refine T_iload_n (pc1 := 130) (pc := 129) k_M_look_129 rfl rfl ?_
          | (with_reducible refine T_if_neN (tgt := 138) (pc1 := 133) (pc := 130) k_M_look_130 (by decide) (by decide) (by omega) (fun hc => ?_) (fun hc => ?_) <;> first | (exfalso; omega) | skip)
          | refine T_if_ne_t (tgt := 138) (pc := 130) k_M_look_130 rfl (by decide) ?_
          | refine T_if_ne_f (tgt := 138) (pc1 := 133) (pc := 130) k_M_look_130 rfl rfl (by decide) ?_
          | refine T_if_ne (tgt := 138) (pc1 := 133) (pc := 130) k_M_look_130 rfl rfl (fun hc => ?_) (fun hc => ?_)
          | refine T_iload (pc1 := 135) (pc := 133) k_M_look_133 rfl rfl ?_
          | refine T_goto (tgt := 140) (pc := 135) k_M_look_135 rfl ?_
          | refine T_iload (pc1 := 140) (pc := 138) k_M_look_138 rfl rfl ?_
          | refine T_retI (pc := 140) k_M_look_140 rfl (by first | rfl | decide | assumption) ?_)
        rw [hlm]
        have hx3 : eqx [102, 104, 105, 106, 112, 113] I J3 := eqx_tr (eqx_mono hJ (by decide)) (eqx_tr (eqx_tr (eqx_up eqx_rf _ (by decide)) (eqx_mono hJ2 (by decide))) (eqx_tr (eqx_pI eqx_rf _ (by decide)) (eqx_mono hJ3 (by decide))))
        have h104 : J3 104 = cpy 156 N (J 104) := by
          rw [hJ3 104 (by decide), pI_rw (by decide), hJ2 104 (by decide), va_up_self, hJN]
        have hbk : eqx [104, 105, 106, 112, 113] I (va_up J3 102 (cpy 156 (J3 104) (J3 102))) := back_eq hN hx3 h104 (fun k hk => by rw [hJ3N, ok4 k hk, va_up_ne _ _ (by omega)])
        generalize va_up J3 102 (cpy 156 (J3 104) (J3 102)) = J4 at *
        cases hl : sel (fun a b => decide (a < b)) (lkM N n tn fr to0) b with
        | none =>
          rw [hl] at hs ih
          dsimp only at hs ih
          subst hs
          repeat' (first
            | refine T_iload_n (pc1 := 1) (pc := 0) k_M_look_0 rfl rfl ?_
            | refine T_iload_n (pc1 := 2) (pc := 1) k_M_look_1 rfl rfl ?_
            | (refine T_cS (As := [_, _]) (d1 := 3) (pc1 := 5) (pc := 2) k_M_look_2 rfl (by decide) (Nat.le_of_ble_eq_true rfl) rfl o_M_areSpots l_M_107 rfl (c_M_areSpots (fun hw => ?_) (fun hw => ?_)) <;> try dsimp only [psh])
            | (with_reducible refine T_if_eqN (tgt := 17) (pc1 := 8) (pc := 5) k_M_look_5 (by decide) (by decide) (by omega) (fun hc => ?_) (fun hc => ?_) <;> first | (exfalso; omega) | skip)
            | refine T_if_eq_t (tgt := 17) (pc := 5) k_M_look_5 rfl (by decide) ?_
            | refine T_if_eq_f (tgt := 17) (pc1 := 8) (pc := 5) k_M_look_5 rfl rfl (by decide) ?_
            | refine T_if_eq (tgt := 17) (pc1 := 8) (pc := 5) k_M_look_5 rfl rfl (fun hc => ?_) (fun hc => ?_)
            | refine T_iload_n (pc1 := 9) (pc := 8) k_M_look_8 rfl rfl ?_
            | refine T_iconst (v := (nI 0)) (pc1 := 10) (pc := 9) k_M_look_9 rfl (by decide) ?_
            | refine T_iconst (v := (nI 1)) (pc1 := 11) (pc := 10) k_M_look_10 rfl (by decide) ?_
            | (refine T_cS (As := [_, _, _]) (d1 := 1) (pc1 := 14) (pc := 11) k_M_look_11 rfl (by decide) (Nat.le_of_ble_eq_true rfl) rfl o_M_within l_M_95 rfl (c_M_within (fun hw => ?_) (fun hw => ?_)) <;> try dsimp only [psh])
            | (with_reducible refine T_if_neN (tgt := 20) (pc1 := 17) (pc := 14) k_M_look_14 (by decide) (by decide) (by omega) (fun hc => ?_) (fun hc => ?_) <;> first | (exfalso; omega) | skip)
            | refine T_if_ne_t (tgt := 20) (pc := 14) k_M_look_14 rfl (by decide) ?_
            | refine T_if_ne_f (tgt := 20) (pc1 := 17) (pc := 14) k_M_look_14 rfl rfl (by decide) ?_
            | refine T_if_ne (tgt := 20) (pc1 := 17) (pc := 14) k_M_look_14 rfl rfl (fun hc => ?_) (fun hc => ?_)
            | refine T_ldc (v := (-1000000001)) (pc1 := 19) (pc := 17) k_M_look_17 rfl c_M_111 ?_
            | refine T_retI (pc := 19) k_M_look_19 rfl (by first | rfl | decide | assumption) ?_
            | refine T_iconst (v := (-1)) (pc1 := 21) (pc := 20) k_M_look_20 rfl (by decide) ?_
            | refine T_istore (pc1 := 23) (pc := 21) k_M_look_21 rfl (Nat.le_of_ble_eq_true rfl) ?_
            | refine T_iconst (v := (nI 0)) (pc1 := 24) (pc := 23) k_M_look_23 rfl (by decide) ?_
            | refine T_istore (pc1 := 26) (pc := 24) k_M_look_24 rfl (Nat.le_of_ble_eq_true rfl) ?_
            | refine T_iconst (v := (nI 0)) (pc1 := 27) (pc := 26) k_M_look_26 rfl (by decide) ?_
            | refine T_istore (pc1 := 29) (pc := 27) k_M_look_27 rfl (Nat.le_of_ble_eq_true rfl) ?_
            | refine T_aload_n (pc1 := 32) (pc := 31) k_M_look_31 rfl rfl ?_
            | refine T_aload_nN (pc1 := 32) (pc := 31) k_M_look_31 rfl rfl ?_
            | refine T_getR (pc1 := 35) (pc := 32) k_M_look_32 rfl f_M_9 rfl (by first | exact ga G (by decide) rfl | assumption) (by first | exact gr G (by decide) rfl | assumption) ?_
            | refine T_iconst (v := (nI 5)) (pc1 := 36) (pc := 35) k_M_look_35 rfl (by decide) ?_
            | refine T_ialdN (pc1 := 37) (pc := 36) k_M_look_36 rfl (by first | exact ga G (by decide) rfl | assumption) (by omega) (by omega) (by first | assumption | (simp (disch := omega) only [pI_eq, pI_row, pI_col, va_up_self, va_up_ne, ne_eq, not_false_eq_true, hJN, hn] <;> rfl) | rfl) ?_
            | refine T_iald (pc1 := 37) (pc := 36) k_M_look_36 rfl (by first | exact ga G (by decide) rfl | assumption) (by assumption) ?_
            | (with_reducible refine T_icmp_geN (tgt := 119) (pc1 := 40) (pc := 37) k_M_look_37 (by decide) (by decide) (by omega) (by omega) (fun hc => ?_) (fun hc => ?_) <;> first | (exfalso; omega) | skip)
            | refine T_icmp_ge_t (tgt := 119) (pc := 37) k_M_look_37 rfl (by decide) ?_
            | refine T_icmp_ge_f (tgt := 119) (pc1 := 40) (pc := 37) k_M_look_37 rfl rfl (by decide) ?_
            | refine T_icmp_ge (tgt := 119) (pc1 := 40) (pc := 37) k_M_look_37 rfl rfl (fun hc => ?_) (fun hc => ?_)
            | refine T_aload_n (pc1 := 41) (pc := 40) k_M_look_40 rfl rfl ?_
            | refine T_aload_nN (pc1 := 41) (pc := 40) k_M_look_40 rfl rfl ?_
            | refine T_getR (pc1 := 44) (pc := 41) k_M_look_41 rfl f_M_9 rfl (by first | exact ga G (by decide) rfl | assumption) (by first | exact gr G (by decide) rfl | assumption) ?_
            | refine T_aload_n (pc1 := 45) (pc := 44) k_M_look_44 rfl rfl ?_
            | refine T_aload_nN (pc1 := 45) (pc := 44) k_M_look_44 rfl rfl ?_
            | refine T_getR (pc1 := 48) (pc := 45) k_M_look_45 rfl f_M_16 rfl (by first | exact ga G (by decide) rfl | assumption) (by first | exact gr G (by decide) rfl | assumption) ?_
            | refine T_sipush (v := (nI 156)) (pc1 := 51) (pc := 48) k_M_look_48 rfl (by decide) ?_
            | (refine T_cS (As := [_, _, _]) (d1 := 1) (pc1 := 54) (pc := 51) k_M_look_51 rfl (by decide) (Nat.le_of_ble_eq_true rfl) rfl o_M_copyRow l_M_91 rfl (c_M_copyRow (ga G (by decide) rfl) (ga G (by decide) rfl) (by omega) (by omega) (by omega) (by omega) (by decide) ?_) <;> try dsimp only [psh])
            | refine T_aload_n (pc1 := 55) (pc := 54) k_M_look_54 rfl rfl ?_
            | refine T_aload_nN (pc1 := 55) (pc := 54) k_M_look_54 rfl rfl ?_
            | refine T_getR (pc1 := 58) (pc := 55) k_M_look_55 rfl f_M_9 rfl (by first | exact ga G (by decide) rfl | assumption) (by first | exact gr G (by decide) rfl | assumption) ?_
            | refine T_bipush (v := (nI 12)) (pc1 := 60) (pc := 58) k_M_look_58 rfl (by decide) ?_
            | refine T_bipush (v := (nI 6)) (pc1 := 62) (pc := 60) k_M_look_60 rfl (by decide) ?_
            | refine T_iload (pc1 := 64) (pc := 62) k_M_look_62 rfl rfl ?_
            | with_reducible refine T_imulN (pc1 := 65) (pc := 64) k_M_look_64 (by decide) ?_
            | refine T_imul (pc1 := 65) (pc := 64) k_M_look_64 rfl ?_
            | with_reducible refine T_iaddN (pc1 := 66) (pc := 65) k_M_look_65 (by decide) ?_
            | refine T_iadd (pc1 := 66) (pc := 65) k_M_look_65 rfl ?_
            | refine T_iconst (v := (nI 5)) (pc1 := 67) (pc := 66) k_M_look_66 rfl (by decide) ?_
            | with_reducible refine T_iaddN (pc1 := 68) (pc := 67) k_M_look_67 (by decide) ?_
            | refine T_iadd (pc1 := 68) (pc := 67) k_M_look_67 rfl ?_
            | refine T_sipush (v := (nI 999)) (pc1 := 71) (pc := 68) k_M_look_68 rfl (by decide) ?_
            | refine T_aload_n (pc1 := 72) (pc := 71) k_M_look_71 rfl rfl ?_
            | refine T_aload_nN (pc1 := 72) (pc := 71) k_M_look_71 rfl rfl ?_
            | refine T_iload (pc1 := 74) (pc := 72) k_M_look_72 rfl rfl ?_
            | (refine T_cV (As := [_]) (d1 := 4) (pc1 := 77) (pc := 74) k_M_look_74 rfl (by decide) (Nat.le_of_ble_eq_true rfl) rfl o_M_takes l_M_143 rfl (by first | exact ga G (by decide) rfl | assumption) rfl (c_M_takesN G hcp ok hbn (fun J2 hJ2 => ?_)) <;> try dsimp only [psh])
            | refine T_mminV (pc1 := 80) (pc := 77) k_M_look_77 rfl l_M_82 (by decide) (Nat.le_of_ble_eq_true rfl) (by with_reducible rfl) (by with_reducible rfl) (by omega) (by omega) ?_
            | refine T_mmin (pc1 := 80) (pc := 77) k_M_look_77 rfl l_M_82 (by decide) (Nat.le_of_ble_eq_true rfl) ?_
            | refine T_iastN (pc1 := 81) (pc := 80) k_M_look_80 rfl (by first | exact ga G (by decide) rfl | assumption) (by omega) (by omega) ?_
            | refine T_aload_n (pc1 := 82) (pc := 81) k_M_look_81 rfl rfl ?_
            | refine T_aload_nN (pc1 := 82) (pc := 81) k_M_look_81 rfl rfl ?_
            | refine T_aload_n (pc1 := 83) (pc := 82) k_M_look_82 rfl rfl ?_
            | refine T_aload_nN (pc1 := 83) (pc := 82) k_M_look_82 rfl rfl ?_
            | refine T_iload_n (pc1 := 84) (pc := 83) k_M_look_83 rfl rfl ?_
            | refine T_iload_n (pc1 := 85) (pc := 84) k_M_look_84 rfl rfl ?_
            | (refine T_cV (As := [_, _]) (d1 := 5) (pc1 := 88) (pc := 85) k_M_look_85 rfl (by decide) (Nat.le_of_ble_eq_true rfl) rfl o_M_walks l_M_174 rfl (by first | exact ga G (by decide) rfl | assumption) rfl (c_M_walks G (upI ((hJ2 102 (by decide)).trans hcp)) oks hf ht (fun J3 hJ3 hJ3N => ?_)) <;> try dsimp only [psh])
            | (refine T_cV (As := [_]) (d1 := 2) (pc1 := 91) (pc := 88) k_M_look_88 rfl (by decide) (Nat.le_of_ble_eq_true rfl) rfl o_M_putBack l_M_183 rfl (by first | exact ga G (by decide) rfl | assumption) rfl (c_M_putBack G ?_) <;> try dsimp only [psh])
            | refine T_istore (pc1 := 93) (pc := 91) k_M_look_91 rfl (Nat.le_of_ble_eq_true rfl) ?_
            | refine T_iload (pc1 := 95) (pc := 93) k_M_look_93 rfl rfl ?_
            | (with_reducible refine T_if_ltN (tgt := 105) (pc1 := 98) (pc := 95) k_M_look_95 (by decide) (by decide) (by omega) ?_ <;> first | (exfalso; omega) | skip)
            | refine T_if_lt_t (tgt := 105) (pc := 95) k_M_look_95 rfl (by decide) ?_
            | refine T_if_lt_f (tgt := 105) (pc1 := 98) (pc := 95) k_M_look_95 rfl rfl (by decide) ?_
            | refine T_if_lt (tgt := 105) (pc1 := 98) (pc := 95) k_M_look_95 rfl rfl (fun hc => ?_) (fun hc => ?_)
            | refine T_iload (pc1 := 100) (pc := 98) k_M_look_98 rfl rfl ?_
            | refine T_iload (pc1 := 102) (pc := 100) k_M_look_100 rfl rfl ?_
            | (with_reducible refine T_icmp_geN (tgt := 113) (pc1 := 105) (pc := 102) k_M_look_102 (by decide) (by decide) (by omega) (by omega) (fun hc => ?_) (fun hc => ?_) <;> first | (exfalso; omega) | skip)
            | refine T_icmp_ge_t (tgt := 113) (pc := 102) k_M_look_102 rfl (by decide) ?_
            | refine T_icmp_ge_f (tgt := 113) (pc1 := 105) (pc := 102) k_M_look_102 rfl rfl (by decide) ?_
            | refine T_icmp_ge (tgt := 113) (pc1 := 105) (pc := 102) k_M_look_102 rfl rfl (fun hc => ?_) (fun hc => ?_)
            | refine T_iload (pc1 := 107) (pc := 105) k_M_look_105 rfl rfl ?_
            | refine T_istore (pc1 := 109) (pc := 107) k_M_look_107 rfl (Nat.le_of_ble_eq_true rfl) ?_
            | refine T_iload (pc1 := 111) (pc := 109) k_M_look_109 rfl rfl ?_
            | refine T_istore (pc1 := 113) (pc := 111) k_M_look_111 rfl (Nat.le_of_ble_eq_true rfl) ?_
            | refine T_iincN (b := 1) (pc1 := 116) (pc := 113) k_M_look_113 rfl rfl (by decide) ?_
            | refine T_iinc (v := (nI 1)) (pc1 := 116) (pc := 113) k_M_look_113 rfl rfl (by decide) ?_
            | refine T_goto (tgt := 29) (pc := 116) k_M_look_116 rfl ?_
            | refine T_iload (pc1 := 121) (pc := 119) k_M_look_119 rfl rfl ?_
            | (with_reducible refine T_if_geN (tgt := 129) (pc1 := 124) (pc := 121) k_M_look_121 (by decide) (by decide) (by omega) ?_ <;> first | (exfalso; omega) | skip)
            | refine T_if_ge_t (tgt := 129) (pc := 121) k_M_look_121 rfl (by decide) ?_
            | refine T_if_ge_f (tgt := 129) (pc1 := 124) (pc := 121) k_M_look_121 rfl rfl (by decide) ?_
            | refine T_if_ge (tgt := 129) (pc1 := 124) (pc := 121) k_M_look_121 rfl rfl (fun hc => ?_) (fun hc => ?_)
            | refine T_ldc (v := (-1000000005)) (pc1 := 126) (pc := 124) k_M_look_124 rfl c_M_103 ?_
            | refine T_goto (tgt := 140) (pc := 126) k_M_look_126 rfl ?_
            | refine T_iload_n (pc1 := 130) (pc := 129) k_M_look_129 rfl rfl ?_
            | (with_reducible refine T_if_neN (tgt := 138) (pc1 := 133) (pc := 130) k_M_look_130 (by decide) (by decide) (by omega) (fun hc => ?_) (fun hc => ?_) <;> first | (exfalso; omega) | skip)
            | refine T_if_ne_t (tgt := 138) (pc := 130) k_M_look_130 rfl (by decide) ?_
            | refine T_if_ne_f (tgt := 138) (pc1 := 133) (pc := 130) k_M_look_130 rfl rfl (by decide) ?_
            | refine T_if_ne (tgt := 138) (pc1 := 133) (pc := 130) k_M_look_130 rfl rfl (fun hc => ?_) (fun hc => ?_)
            | refine T_iload (pc1 := 135) (pc := 133) k_M_look_133 rfl rfl ?_
            | refine T_goto (tgt := 140) (pc := 135) k_M_look_135 rfl ?_
            | refine T_iload (pc1 := 140) (pc := 138) k_M_look_138 rfl rfl ?_
            | refine T_retI (pc := 140) k_M_look_140 rfl (by first | rfl | decide | assumption) ?_)
          exact ih _ _ _ J4 (by omega) hbk ⟨rfl, rfl, by omega, ok5⟩
        | some p =>
          rw [hl] at hs ih
          dsimp only at hs ih
          obtain ⟨rfl, rfl, hp1, hp2⟩ := hs
          repeat' (first
            | refine T_iload_n (pc1 := 1) (pc := 0) k_M_look_0 rfl rfl ?_
            | refine T_iload_n (pc1 := 2) (pc := 1) k_M_look_1 rfl rfl ?_
            | (refine T_cS (As := [_, _]) (d1 := 3) (pc1 := 5) (pc := 2) k_M_look_2 rfl (by decide) (Nat.le_of_ble_eq_true rfl) rfl o_M_areSpots l_M_107 rfl (c_M_areSpots (fun hw => ?_) (fun hw => ?_)) <;> try dsimp only [psh])
            | (with_reducible refine T_if_eqN (tgt := 17) (pc1 := 8) (pc := 5) k_M_look_5 (by decide) (by decide) (by omega) (fun hc => ?_) (fun hc => ?_) <;> first | (exfalso; omega) | skip)
            | refine T_if_eq_t (tgt := 17) (pc := 5) k_M_look_5 rfl (by decide) ?_
            | refine T_if_eq_f (tgt := 17) (pc1 := 8) (pc := 5) k_M_look_5 rfl rfl (by decide) ?_
            | refine T_if_eq (tgt := 17) (pc1 := 8) (pc := 5) k_M_look_5 rfl rfl (fun hc => ?_) (fun hc => ?_)
            | refine T_iload_n (pc1 := 9) (pc := 8) k_M_look_8 rfl rfl ?_
            | refine T_iconst (v := (nI 0)) (pc1 := 10) (pc := 9) k_M_look_9 rfl (by decide) ?_
            | refine T_iconst (v := (nI 1)) (pc1 := 11) (pc := 10) k_M_look_10 rfl (by decide) ?_
            | (refine T_cS (As := [_, _, _]) (d1 := 1) (pc1 := 14) (pc := 11) k_M_look_11 rfl (by decide) (Nat.le_of_ble_eq_true rfl) rfl o_M_within l_M_95 rfl (c_M_within (fun hw => ?_) (fun hw => ?_)) <;> try dsimp only [psh])
            | (with_reducible refine T_if_neN (tgt := 20) (pc1 := 17) (pc := 14) k_M_look_14 (by decide) (by decide) (by omega) (fun hc => ?_) (fun hc => ?_) <;> first | (exfalso; omega) | skip)
            | refine T_if_ne_t (tgt := 20) (pc := 14) k_M_look_14 rfl (by decide) ?_
            | refine T_if_ne_f (tgt := 20) (pc1 := 17) (pc := 14) k_M_look_14 rfl rfl (by decide) ?_
            | refine T_if_ne (tgt := 20) (pc1 := 17) (pc := 14) k_M_look_14 rfl rfl (fun hc => ?_) (fun hc => ?_)
            | refine T_ldc (v := (-1000000001)) (pc1 := 19) (pc := 17) k_M_look_17 rfl c_M_111 ?_
            | refine T_retI (pc := 19) k_M_look_19 rfl (by first | rfl | decide | assumption) ?_
            | refine T_iconst (v := (-1)) (pc1 := 21) (pc := 20) k_M_look_20 rfl (by decide) ?_
            | refine T_istore (pc1 := 23) (pc := 21) k_M_look_21 rfl (Nat.le_of_ble_eq_true rfl) ?_
            | refine T_iconst (v := (nI 0)) (pc1 := 24) (pc := 23) k_M_look_23 rfl (by decide) ?_
            | refine T_istore (pc1 := 26) (pc := 24) k_M_look_24 rfl (Nat.le_of_ble_eq_true rfl) ?_
            | refine T_iconst (v := (nI 0)) (pc1 := 27) (pc := 26) k_M_look_26 rfl (by decide) ?_
            | refine T_istore (pc1 := 29) (pc := 27) k_M_look_27 rfl (Nat.le_of_ble_eq_true rfl) ?_
            | refine T_aload_n (pc1 := 32) (pc := 31) k_M_look_31 rfl rfl ?_
            | refine T_aload_nN (pc1 := 32) (pc := 31) k_M_look_31 rfl rfl ?_
            | refine T_getR (pc1 := 35) (pc := 32) k_M_look_32 rfl f_M_9 rfl (by first | exact ga G (by decide) rfl | assumption) (by first | exact gr G (by decide) rfl | assumption) ?_
            | refine T_iconst (v := (nI 5)) (pc1 := 36) (pc := 35) k_M_look_35 rfl (by decide) ?_
            | refine T_ialdN (pc1 := 37) (pc := 36) k_M_look_36 rfl (by first | exact ga G (by decide) rfl | assumption) (by omega) (by omega) (by first | assumption | (simp (disch := omega) only [pI_eq, pI_row, pI_col, va_up_self, va_up_ne, ne_eq, not_false_eq_true, hJN, hn] <;> rfl) | rfl) ?_
            | refine T_iald (pc1 := 37) (pc := 36) k_M_look_36 rfl (by first | exact ga G (by decide) rfl | assumption) (by assumption) ?_
            | (with_reducible refine T_icmp_geN (tgt := 119) (pc1 := 40) (pc := 37) k_M_look_37 (by decide) (by decide) (by omega) (by omega) (fun hc => ?_) (fun hc => ?_) <;> first | (exfalso; omega) | skip)
            | refine T_icmp_ge_t (tgt := 119) (pc := 37) k_M_look_37 rfl (by decide) ?_
            | refine T_icmp_ge_f (tgt := 119) (pc1 := 40) (pc := 37) k_M_look_37 rfl rfl (by decide) ?_
            | refine T_icmp_ge (tgt := 119) (pc1 := 40) (pc := 37) k_M_look_37 rfl rfl (fun hc => ?_) (fun hc => ?_)
            | refine T_aload_n (pc1 := 41) (pc := 40) k_M_look_40 rfl rfl ?_
            | refine T_aload_nN (pc1 := 41) (pc := 40) k_M_look_40 rfl rfl ?_
            | refine T_getR (pc1 := 44) (pc := 41) k_M_look_41 rfl f_M_9 rfl (by first | exact ga G (by decide) rfl | assumption) (by first | exact gr G (by decide) rfl | assumption) ?_
            | refine T_aload_n (pc1 := 45) (pc := 44) k_M_look_44 rfl rfl ?_
            | refine T_aload_nN (pc1 := 45) (pc := 44) k_M_look_44 rfl rfl ?_
            | refine T_getR (pc1 := 48) (pc := 45) k_M_look_45 rfl f_M_16 rfl (by first | exact ga G (by decide) rfl | assumption) (by first | exact gr G (by decide) rfl | assumption) ?_
            | refine T_sipush (v := (nI 156)) (pc1 := 51) (pc := 48) k_M_look_48 rfl (by decide) ?_
            | (refine T_cS (As := [_, _, _]) (d1 := 1) (pc1 := 54) (pc := 51) k_M_look_51 rfl (by decide) (Nat.le_of_ble_eq_true rfl) rfl o_M_copyRow l_M_91 rfl (c_M_copyRow (ga G (by decide) rfl) (ga G (by decide) rfl) (by omega) (by omega) (by omega) (by omega) (by decide) ?_) <;> try dsimp only [psh])
            | refine T_aload_n (pc1 := 55) (pc := 54) k_M_look_54 rfl rfl ?_
            | refine T_aload_nN (pc1 := 55) (pc := 54) k_M_look_54 rfl rfl ?_
            | refine T_getR (pc1 := 58) (pc := 55) k_M_look_55 rfl f_M_9 rfl (by first | exact ga G (by decide) rfl | assumption) (by first | exact gr G (by decide) rfl | assumption) ?_
            | refine T_bipush (v := (nI 12)) (pc1 := 60) (pc := 58) k_M_look_58 rfl (by decide) ?_
            | refine T_bipush (v := (nI 6)) (pc1 := 62) (pc := 60) k_M_look_60 rfl (by decide) ?_
            | refine T_iload (pc1 := 64) (pc := 62) k_M_look_62 rfl rfl ?_
            | with_reducible refine T_imulN (pc1 := 65) (pc := 64) k_M_look_64 (by decide) ?_
            | refine T_imul (pc1 := 65) (pc := 64) k_M_look_64 rfl ?_
            | with_reducible refine T_iaddN (pc1 := 66) (pc := 65) k_M_look_65 (by decide) ?_
            | refine T_iadd (pc1 := 66) (pc := 65) k_M_look_65 rfl ?_
            | refine T_iconst (v := (nI 5)) (pc1 := 67) (pc := 66) k_M_look_66 rfl (by decide) ?_
            | with_reducible refine T_iaddN (pc1 := 68) (pc := 67) k_M_look_67 (by decide) ?_
            | refine T_iadd (pc1 := 68) (pc := 67) k_M_look_67 rfl ?_
            | refine T_sipush (v := (nI 999)) (pc1 := 71) (pc := 68) k_M_look_68 rfl (by decide) ?_
            | refine T_aload_n (pc1 := 72) (pc := 71) k_M_look_71 rfl rfl ?_
            | refine T_aload_nN (pc1 := 72) (pc := 71) k_M_look_71 rfl rfl ?_
            | refine T_iload (pc1 := 74) (pc := 72) k_M_look_72 rfl rfl ?_
            | (refine T_cV (As := [_]) (d1 := 4) (pc1 := 77) (pc := 74) k_M_look_74 rfl (by decide) (Nat.le_of_ble_eq_true rfl) rfl o_M_takes l_M_143 rfl (by first | exact ga G (by decide) rfl | assumption) rfl (c_M_takesN G hcp ok hbn (fun J2 hJ2 => ?_)) <;> try dsimp only [psh])
            | refine T_mminV (pc1 := 80) (pc := 77) k_M_look_77 rfl l_M_82 (by decide) (Nat.le_of_ble_eq_true rfl) (by with_reducible rfl) (by with_reducible rfl) (by omega) (by omega) ?_
            | refine T_mmin (pc1 := 80) (pc := 77) k_M_look_77 rfl l_M_82 (by decide) (Nat.le_of_ble_eq_true rfl) ?_
            | refine T_iastN (pc1 := 81) (pc := 80) k_M_look_80 rfl (by first | exact ga G (by decide) rfl | assumption) (by omega) (by omega) ?_
            | refine T_aload_n (pc1 := 82) (pc := 81) k_M_look_81 rfl rfl ?_
            | refine T_aload_nN (pc1 := 82) (pc := 81) k_M_look_81 rfl rfl ?_
            | refine T_aload_n (pc1 := 83) (pc := 82) k_M_look_82 rfl rfl ?_
            | refine T_aload_nN (pc1 := 83) (pc := 82) k_M_look_82 rfl rfl ?_
            | refine T_iload_n (pc1 := 84) (pc := 83) k_M_look_83 rfl rfl ?_
            | refine T_iload_n (pc1 := 85) (pc := 84) k_M_look_84 rfl rfl ?_
            | (refine T_cV (As := [_, _]) (d1 := 5) (pc1 := 88) (pc := 85) k_M_look_85 rfl (by decide) (Nat.le_of_ble_eq_true rfl) rfl o_M_walks l_M_174 rfl (by first | exact ga G (by decide) rfl | assumption) rfl (c_M_walks G (upI ((hJ2 102 (by decide)).trans hcp)) oks hf ht (fun J3 hJ3 hJ3N => ?_)) <;> try dsimp only [psh])
            | (refine T_cV (As := [_]) (d1 := 2) (pc1 := 91) (pc := 88) k_M_look_88 rfl (by decide) (Nat.le_of_ble_eq_true rfl) rfl o_M_putBack l_M_183 rfl (by first | exact ga G (by decide) rfl | assumption) rfl (c_M_putBack G ?_) <;> try dsimp only [psh])
            | refine T_istore (pc1 := 93) (pc := 91) k_M_look_91 rfl (Nat.le_of_ble_eq_true rfl) ?_
            | refine T_iload (pc1 := 95) (pc := 93) k_M_look_93 rfl rfl ?_
            | (with_reducible refine T_if_ltN (tgt := 105) (pc1 := 98) (pc := 95) k_M_look_95 (by decide) (by decide) (by omega) ?_ <;> first | (exfalso; omega) | skip)
            | refine T_if_lt_t (tgt := 105) (pc := 95) k_M_look_95 rfl (by decide) ?_
            | refine T_if_lt_f (tgt := 105) (pc1 := 98) (pc := 95) k_M_look_95 rfl rfl (by decide) ?_
            | refine T_if_lt (tgt := 105) (pc1 := 98) (pc := 95) k_M_look_95 rfl rfl (fun hc => ?_) (fun hc => ?_)
            | refine T_iload (pc1 := 100) (pc := 98) k_M_look_98 rfl rfl ?_
            | refine T_iload (pc1 := 102) (pc := 100) k_M_look_100 rfl rfl ?_
            | (with_reducible refine T_icmp_geN (tgt := 113) (pc1 := 105) (pc := 102) k_M_look_102 (by decide) (by decide) (by omega) (by omega) (fun hc => ?_) (fun hc => ?_) <;> first | (exfalso; omega) | skip)
            | refine T_icmp_ge_t (tgt := 113) (pc := 102) k_M_look_102 rfl (by decide) ?_
            | refine T_icmp_ge_f (tgt := 113) (pc1 := 105) (pc := 102) k_M_look_102 rfl rfl (by decide) ?_
            | refine T_icmp_ge (tgt := 113) (pc1 := 105) (pc := 102) k_M_look_102 rfl rfl (fun hc => ?_) (fun hc => ?_)
            | refine T_iload (pc1 := 107) (pc := 105) k_M_look_105 rfl rfl ?_
            | refine T_istore (pc1 := 109) (pc := 107) k_M_look_107 rfl (Nat.le_of_ble_eq_true rfl) ?_
            | refine T_iload (pc1 := 111) (pc := 109) k_M_look_109 rfl rfl ?_
            | refine T_istore (pc1 := 113) (pc := 111) k_M_look_111 rfl (Nat.le_of_ble_eq_true rfl) ?_
            | refine T_iincN (b := 1) (pc1 := 116) (pc := 113) k_M_look_113 rfl rfl (by decide) ?_
            | refine T_iinc (v := (nI 1)) (pc1 := 116) (pc := 113) k_M_look_113 rfl rfl (by decide) ?_
            | refine T_goto (tgt := 29) (pc := 116) k_M_look_116 rfl ?_
            | refine T_iload (pc1 := 121) (pc := 119) k_M_look_119 rfl rfl ?_
            | (with_reducible refine T_if_geN (tgt := 129) (pc1 := 124) (pc := 121) k_M_look_121 (by decide) (by decide) (by omega) ?_ <;> first | (exfalso; omega) | skip)
            | refine T_if_ge_t (tgt := 129) (pc := 121) k_M_look_121 rfl (by decide) ?_
            | refine T_if_ge_f (tgt := 129) (pc1 := 124) (pc := 121) k_M_look_121 rfl rfl (by decide) ?_
            | refine T_if_ge (tgt := 129) (pc1 := 124) (pc := 121) k_M_look_121 rfl rfl (fun hc => ?_) (fun hc => ?_)
            | refine T_ldc (v := (-1000000005)) (pc1 := 126) (pc := 124) k_M_look_124 rfl c_M_103 ?_
            | refine T_goto (tgt := 140) (pc := 126) k_M_look_126 rfl ?_
            | refine T_iload_n (pc1 := 130) (pc := 129) k_M_look_129 rfl rfl ?_
            | (with_reducible refine T_if_neN (tgt := 138) (pc1 := 133) (pc := 130) k_M_look_130 (by decide) (by decide) (by omega) (fun hc => ?_) (fun hc => ?_) <;> first | (exfalso; omega) | skip)
            | refine T_if_ne_t (tgt := 138) (pc := 130) k_M_look_130 rfl (by decide) ?_
            | refine T_if_ne_f (tgt := 138) (pc1 := 133) (pc := 130) k_M_look_130 rfl rfl (by decide) ?_
            | refine T_if_ne (tgt := 138) (pc1 := 133) (pc := 130) k_M_look_130 rfl rfl (fun hc => ?_) (fun hc => ?_)
            | refine T_iload (pc1 := 135) (pc := 133) k_M_look_133 rfl rfl ?_
            | refine T_goto (tgt := 140) (pc := 135) k_M_look_135 rfl ?_
            | refine T_iload (pc1 := 140) (pc := 138) k_M_look_138 rfl rfl ?_
            | refine T_retI (pc := 140) k_M_look_140 rfl (by first | rfl | decide | assumption) ?_)
          · rw [if_neg (by rw [decide_eq_true_eq]; omega)] at ih
            exact ih _ _ _ J4 (by omega) hbk ⟨rfl, rfl, hp1, hp2⟩
          · rw [if_pos (by rw [decide_eq_true_eq]; omega)] at ih
            exact ih _ _ _ J4 (by omega) hbk ⟨rfl, rfl, by show b < 14; omega, ok5⟩
    repeat' (first
      | refine T_iload_n (pc1 := 1) (pc := 0) k_M_look_0 rfl rfl ?_
      | refine T_iload_n (pc1 := 2) (pc := 1) k_M_look_1 rfl rfl ?_
      | (refine T_cS (As := [_, _]) (d1 := 3) (pc1 := 5) (pc := 2) k_M_look_2 rfl (by decide) (Nat.le_of_ble_eq_true rfl) rfl o_M_areSpots l_M_107 rfl (c_M_areSpots (fun hw => ?_) (fun hw => ?_)) <;> try dsimp only [psh])
      | (with_reducible refine T_if_eqN (tgt := 17) (pc1 := 8) (pc := 5) k_M_look_5 (by decide) (by decide) (by omega) (fun hc => ?_) (fun hc => ?_) <;> first | (exfalso; omega) | skip)
      | refine T_if_eq_t (tgt := 17) (pc := 5) k_M_look_5 rfl (by decide) ?_
      | refine T_if_eq_f (tgt := 17) (pc1 := 8) (pc := 5) k_M_look_5 rfl rfl (by decide) ?_
      | refine T_if_eq (tgt := 17) (pc1 := 8) (pc := 5) k_M_look_5 rfl rfl (fun hc => ?_) (fun hc => ?_)
      | refine T_iload_n (pc1 := 9) (pc := 8) k_M_look_8 rfl rfl ?_
      | refine T_iconst (v := (nI 0)) (pc1 := 10) (pc := 9) k_M_look_9 rfl (by decide) ?_
      | refine T_iconst (v := (nI 1)) (pc1 := 11) (pc := 10) k_M_look_10 rfl (by decide) ?_
      | (refine T_cS (As := [_, _, _]) (d1 := 1) (pc1 := 14) (pc := 11) k_M_look_11 rfl (by decide) (Nat.le_of_ble_eq_true rfl) rfl o_M_within l_M_95 rfl (c_M_within (fun hw => ?_) (fun hw => ?_)) <;> try dsimp only [psh])
      | (with_reducible refine T_if_neN (tgt := 20) (pc1 := 17) (pc := 14) k_M_look_14 (by decide) (by decide) (by omega) (fun hc => ?_) (fun hc => ?_) <;> first | (exfalso; omega) | skip)
      | refine T_if_ne_t (tgt := 20) (pc := 14) k_M_look_14 rfl (by decide) ?_
      | refine T_if_ne_f (tgt := 20) (pc1 := 17) (pc := 14) k_M_look_14 rfl rfl (by decide) ?_
      | refine T_if_ne (tgt := 20) (pc1 := 17) (pc := 14) k_M_look_14 rfl rfl (fun hc => ?_) (fun hc => ?_)
      | refine T_ldc (v := (-1000000001)) (pc1 := 19) (pc := 17) k_M_look_17 rfl c_M_111 ?_
      | refine T_retI (pc := 19) k_M_look_19 rfl (by first | rfl | decide | assumption) ?_
      | refine T_iconst (v := (-1)) (pc1 := 21) (pc := 20) k_M_look_20 rfl (by decide) ?_
      | refine T_istore (pc1 := 23) (pc := 21) k_M_look_21 rfl (Nat.le_of_ble_eq_true rfl) ?_
      | refine T_iconst (v := (nI 0)) (pc1 := 24) (pc := 23) k_M_look_23 rfl (by decide) ?_
      | refine T_istore (pc1 := 26) (pc := 24) k_M_look_24 rfl (Nat.le_of_ble_eq_true rfl) ?_
      | refine T_iconst (v := (nI 0)) (pc1 := 27) (pc := 26) k_M_look_26 rfl (by decide) ?_
      | refine T_istore (pc1 := 29) (pc := 27) k_M_look_27 rfl (Nat.le_of_ble_eq_true rfl) ?_
      | refine T_aload_n (pc1 := 32) (pc := 31) k_M_look_31 rfl rfl ?_
      | refine T_aload_nN (pc1 := 32) (pc := 31) k_M_look_31 rfl rfl ?_
      | refine T_getR (pc1 := 35) (pc := 32) k_M_look_32 rfl f_M_9 rfl (by first | exact ga G (by decide) rfl | assumption) (by first | exact gr G (by decide) rfl | assumption) ?_
      | refine T_iconst (v := (nI 5)) (pc1 := 36) (pc := 35) k_M_look_35 rfl (by decide) ?_
      | refine T_ialdN (pc1 := 37) (pc := 36) k_M_look_36 rfl (by first | exact ga G (by decide) rfl | assumption) (by omega) (by omega) (by first | assumption | (simp (disch := omega) only [pI_eq, pI_row, pI_col, va_up_self, va_up_ne, ne_eq, not_false_eq_true, hJN, hn] <;> rfl) | rfl) ?_
      | refine T_iald (pc1 := 37) (pc := 36) k_M_look_36 rfl (by first | exact ga G (by decide) rfl | assumption) (by assumption) ?_
      | (with_reducible refine T_icmp_geN (tgt := 119) (pc1 := 40) (pc := 37) k_M_look_37 (by decide) (by decide) (by omega) (by omega) (fun hc => ?_) (fun hc => ?_) <;> first | (exfalso; omega) | skip)
      | refine T_icmp_ge_t (tgt := 119) (pc := 37) k_M_look_37 rfl (by decide) ?_
      | refine T_icmp_ge_f (tgt := 119) (pc1 := 40) (pc := 37) k_M_look_37 rfl rfl (by decide) ?_
      | refine T_icmp_ge (tgt := 119) (pc1 := 40) (pc := 37) k_M_look_37 rfl rfl (fun hc => ?_) (fun hc => ?_)
      | refine T_aload_n (pc1 := 41) (pc := 40) k_M_look_40 rfl rfl ?_
      | refine T_aload_nN (pc1 := 41) (pc := 40) k_M_look_40 rfl rfl ?_
      | refine T_getR (pc1 := 44) (pc := 41) k_M_look_41 rfl f_M_9 rfl (by first | exact ga G (by decide) rfl | assumption) (by first | exact gr G (by decide) rfl | assumption) ?_
      | refine T_aload_n (pc1 := 45) (pc := 44) k_M_look_44 rfl rfl ?_
      | refine T_aload_nN (pc1 := 45) (pc := 44) k_M_look_44 rfl rfl ?_
      | refine T_getR (pc1 := 48) (pc := 45) k_M_look_45 rfl f_M_16 rfl (by first | exact ga G (by decide) rfl | assumption) (by first | exact gr G (by decide) rfl | assumption) ?_
      | refine T_sipush (v := (nI 156)) (pc1 := 51) (pc := 48) k_M_look_48 rfl (by decide) ?_
      | (refine T_cS (As := [_, _, _]) (d1 := 1) (pc1 := 54) (pc := 51) k_M_look_51 rfl (by decide) (Nat.le_of_ble_eq_true rfl) rfl o_M_copyRow l_M_91 rfl (c_M_copyRow (ga G (by decide) rfl) (ga G (by decide) rfl) (by omega) (by omega) (by omega) (by omega) (by decide) ?_) <;> try dsimp only [psh])
      | refine T_aload_n (pc1 := 55) (pc := 54) k_M_look_54 rfl rfl ?_
      | refine T_aload_nN (pc1 := 55) (pc := 54) k_M_look_54 rfl rfl ?_
      | refine T_getR (pc1 := 58) (pc := 55) k_M_look_55 rfl f_M_9 rfl (by first | exact ga G (by decide) rfl | assumption) (by first | exact gr G (by decide) rfl | assumption) ?_
      | refine T_bipush (v := (nI 12)) (pc1 := 60) (pc := 58) k_M_look_58 rfl (by decide) ?_
      | refine T_bipush (v := (nI 6)) (pc1 := 62) (pc := 60) k_M_look_60 rfl (by decide) ?_
      | refine T_iload (pc1 := 64) (pc := 62) k_M_look_62 rfl rfl ?_
      | with_reducible refine T_imulN (pc1 := 65) (pc := 64) k_M_look_64 (by decide) ?_
      | refine T_imul (pc1 := 65) (pc := 64) k_M_look_64 rfl ?_
      | with_reducible refine T_iaddN (pc1 := 66) (pc := 65) k_M_look_65 (by decide) ?_
      | refine T_iadd (pc1 := 66) (pc := 65) k_M_look_65 rfl ?_
      | refine T_iconst (v := (nI 5)) (pc1 := 67) (pc := 66) k_M_look_66 rfl (by decide) ?_
      | with_reducible refine T_iaddN (pc1 := 68) (pc := 67) k_M_look_67 (by decide) ?_
      | refine T_iadd (pc1 := 68) (pc := 67) k_M_look_67 rfl ?_
      | refine T_sipush (v := (nI 999)) (pc1 := 71) (pc := 68) k_M_look_68 rfl (by decide) ?_
      | refine T_aload_n (pc1 := 72) (pc := 71) k_M_look_71 rfl rfl ?_
      | refine T_aload_nN (pc1 := 72) (pc := 71) k_M_look_71 rfl rfl ?_
      | refine T_iload (pc1 := 74) (pc := 72) k_M_look_72 rfl rfl ?_
      | (refine T_cV (As := [_]) (d1 := 4) (pc1 := 77) (pc := 74) k_M_look_74 rfl (by decide) (Nat.le_of_ble_eq_true rfl) rfl o_M_takes l_M_143 rfl (by first | exact ga G (by decide) rfl | assumption) rfl (c_M_takesN G hcp ok hbn (fun J2 hJ2 => ?_)) <;> try dsimp only [psh])
      | refine T_mminV (pc1 := 80) (pc := 77) k_M_look_77 rfl l_M_82 (by decide) (Nat.le_of_ble_eq_true rfl) (by with_reducible rfl) (by with_reducible rfl) (by omega) (by omega) ?_
      | refine T_mmin (pc1 := 80) (pc := 77) k_M_look_77 rfl l_M_82 (by decide) (Nat.le_of_ble_eq_true rfl) ?_
      | refine T_iastN (pc1 := 81) (pc := 80) k_M_look_80 rfl (by first | exact ga G (by decide) rfl | assumption) (by omega) (by omega) ?_
      | refine T_aload_n (pc1 := 82) (pc := 81) k_M_look_81 rfl rfl ?_
      | refine T_aload_nN (pc1 := 82) (pc := 81) k_M_look_81 rfl rfl ?_
      | refine T_aload_n (pc1 := 83) (pc := 82) k_M_look_82 rfl rfl ?_
      | refine T_aload_nN (pc1 := 83) (pc := 82) k_M_look_82 rfl rfl ?_
      | refine T_iload_n (pc1 := 84) (pc := 83) k_M_look_83 rfl rfl ?_
      | refine T_iload_n (pc1 := 85) (pc := 84) k_M_look_84 rfl rfl ?_
      | (refine T_cV (As := [_, _]) (d1 := 5) (pc1 := 88) (pc := 85) k_M_look_85 rfl (by decide) (Nat.le_of_ble_eq_true rfl) rfl o_M_walks l_M_174 rfl (by first | exact ga G (by decide) rfl | assumption) rfl (c_M_walks G (upI ((hJ2 102 (by decide)).trans hcp)) oks hf ht (fun J3 hJ3 hJ3N => ?_)) <;> try dsimp only [psh])
      | (refine T_cV (As := [_]) (d1 := 2) (pc1 := 91) (pc := 88) k_M_look_88 rfl (by decide) (Nat.le_of_ble_eq_true rfl) rfl o_M_putBack l_M_183 rfl (by first | exact ga G (by decide) rfl | assumption) rfl (c_M_putBack G ?_) <;> try dsimp only [psh])
      | refine T_istore (pc1 := 93) (pc := 91) k_M_look_91 rfl (Nat.le_of_ble_eq_true rfl) ?_
      | refine T_iload (pc1 := 95) (pc := 93) k_M_look_93 rfl rfl ?_
      | (with_reducible refine T_if_ltN (tgt := 105) (pc1 := 98) (pc := 95) k_M_look_95 (by decide) (by decide) (by omega) ?_ <;> first | (exfalso; omega) | skip)
      | refine T_if_lt_t (tgt := 105) (pc := 95) k_M_look_95 rfl (by decide) ?_
      | refine T_if_lt_f (tgt := 105) (pc1 := 98) (pc := 95) k_M_look_95 rfl rfl (by decide) ?_
      | refine T_if_lt (tgt := 105) (pc1 := 98) (pc := 95) k_M_look_95 rfl rfl (fun hc => ?_) (fun hc => ?_)
      | refine T_iload (pc1 := 100) (pc := 98) k_M_look_98 rfl rfl ?_
      | refine T_iload (pc1 := 102) (pc := 100) k_M_look_100 rfl rfl ?_
      | (with_reducible refine T_icmp_geN (tgt := 113) (pc1 := 105) (pc := 102) k_M_look_102 (by decide) (by decide) (by omega) (by omega) (fun hc => ?_) (fun hc => ?_) <;> first | (exfalso; omega) | skip)
      | refine T_icmp_ge_t (tgt := 113) (pc := 102) k_M_look_102 rfl (by decide) ?_
      | refine T_icmp_ge_f (tgt := 113) (pc1 := 105) (pc := 102) k_M_look_102 rfl rfl (by decide) ?_
      | refine T_icmp_ge (tgt := 113) (pc1 := 105) (pc := 102) k_M_look_102 rfl rfl (fun hc => ?_) (fun hc => ?_)
      | refine T_iload (pc1 := 107) (pc := 105) k_M_look_105 rfl rfl ?_
      | refine T_istore (pc1 := 109) (pc := 107) k_M_look_107 rfl (Nat.le_of_ble_eq_true rfl) ?_
      | refine T_iload (pc1 := 111) (pc := 109) k_M_look_109 rfl rfl ?_
      | refine T_istore (pc1 := 113) (pc := 111) k_M_look_111 rfl (Nat.le_of_ble_eq_true rfl) ?_
      | refine T_iincN (b := 1) (pc1 := 116) (pc := 113) k_M_look_113 rfl rfl (by decide) ?_
      | refine T_iinc (v := (nI 1)) (pc1 := 116) (pc := 113) k_M_look_113 rfl rfl (by decide) ?_
      | refine T_goto (tgt := 29) (pc := 116) k_M_look_116 rfl ?_
      | refine T_iload (pc1 := 121) (pc := 119) k_M_look_119 rfl rfl ?_
      | (with_reducible refine T_if_geN (tgt := 129) (pc1 := 124) (pc := 121) k_M_look_121 (by decide) (by decide) (by omega) ?_ <;> first | (exfalso; omega) | skip)
      | refine T_if_ge_t (tgt := 129) (pc := 121) k_M_look_121 rfl (by decide) ?_
      | refine T_if_ge_f (tgt := 129) (pc1 := 124) (pc := 121) k_M_look_121 rfl rfl (by decide) ?_
      | refine T_if_ge (tgt := 129) (pc1 := 124) (pc := 121) k_M_look_121 rfl rfl (fun hc => ?_) (fun hc => ?_)
      | refine T_ldc (v := (-1000000005)) (pc1 := 126) (pc := 124) k_M_look_124 rfl c_M_103 ?_
      | refine T_goto (tgt := 140) (pc := 126) k_M_look_126 rfl ?_
      | refine T_iload_n (pc1 := 130) (pc := 129) k_M_look_129 rfl rfl ?_
      | (with_reducible refine T_if_neN (tgt := 138) (pc1 := 133) (pc := 130) k_M_look_130 (by decide) (by decide) (by omega) (fun hc => ?_) (fun hc => ?_) <;> first | (exfalso; omega) | skip)
      | refine T_if_ne_t (tgt := 138) (pc := 130) k_M_look_130 rfl (by decide) ?_
      | refine T_if_ne_f (tgt := 138) (pc1 := 133) (pc := 130) k_M_look_130 rfl rfl (by decide) ?_
      | refine T_if_ne (tgt := 138) (pc1 := 133) (pc := 130) k_M_look_130 rfl rfl (fun hc => ?_) (fun hc => ?_)
      | refine T_iload (pc1 := 135) (pc := 133) k_M_look_133 rfl rfl ?_
      | refine T_goto (tgt := 140) (pc := 135) k_M_look_135 rfl ?_
      | refine T_iload (pc1 := 140) (pc := 138) k_M_look_138 rfl rfl ?_
      | refine T_retI (pc := 140) k_M_look_140 rfl (by first | rfl | decide | assumption) ?_)
    all_goals first | exact loop n 0 _ _ _ I (by omega) eqx_rf rfl | (exfalso; exact hw hok.1) | (exfalso; apply hw; constructor <;> omega)
  · rw [lookA, if_neg hok] at kk
    repeat' (first
      | refine T_iload_n (pc1 := 1) (pc := 0) k_M_look_0 rfl rfl ?_
      | refine T_iload_n (pc1 := 2) (pc := 1) k_M_look_1 rfl rfl ?_
      | (refine T_cS (As := [_, _]) (d1 := 3) (pc1 := 5) (pc := 2) k_M_look_2 rfl (by decide) (Nat.le_of_ble_eq_true rfl) rfl o_M_areSpots l_M_107 rfl (c_M_areSpots (fun hw => ?_) (fun hw => ?_)) <;> try dsimp only [psh])
      | (with_reducible refine T_if_eqN (tgt := 17) (pc1 := 8) (pc := 5) k_M_look_5 (by decide) (by decide) (by omega) (fun hc => ?_) (fun hc => ?_) <;> first | (exfalso; omega) | skip)
      | refine T_if_eq_t (tgt := 17) (pc := 5) k_M_look_5 rfl (by decide) ?_
      | refine T_if_eq_f (tgt := 17) (pc1 := 8) (pc := 5) k_M_look_5 rfl rfl (by decide) ?_
      | refine T_if_eq (tgt := 17) (pc1 := 8) (pc := 5) k_M_look_5 rfl rfl (fun hc => ?_) (fun hc => ?_)
      | refine T_iload_n (pc1 := 9) (pc := 8) k_M_look_8 rfl rfl ?_
      | refine T_iconst (v := (nI 0)) (pc1 := 10) (pc := 9) k_M_look_9 rfl (by decide) ?_
      | refine T_iconst (v := (nI 1)) (pc1 := 11) (pc := 10) k_M_look_10 rfl (by decide) ?_
      | (refine T_cS (As := [_, _, _]) (d1 := 1) (pc1 := 14) (pc := 11) k_M_look_11 rfl (by decide) (Nat.le_of_ble_eq_true rfl) rfl o_M_within l_M_95 rfl (c_M_within (fun hw => ?_) (fun hw => ?_)) <;> try dsimp only [psh])
      | (with_reducible refine T_if_neN (tgt := 20) (pc1 := 17) (pc := 14) k_M_look_14 (by decide) (by decide) (by omega) (fun hc => ?_) (fun hc => ?_) <;> first | (exfalso; omega) | skip)
      | refine T_if_ne_t (tgt := 20) (pc := 14) k_M_look_14 rfl (by decide) ?_
      | refine T_if_ne_f (tgt := 20) (pc1 := 17) (pc := 14) k_M_look_14 rfl rfl (by decide) ?_
      | refine T_if_ne (tgt := 20) (pc1 := 17) (pc := 14) k_M_look_14 rfl rfl (fun hc => ?_) (fun hc => ?_)
      | refine T_ldc (v := (-1000000001)) (pc1 := 19) (pc := 17) k_M_look_17 rfl c_M_111 ?_
      | refine T_retI (pc := 19) k_M_look_19 rfl (by first | rfl | decide | assumption) ?_)
    all_goals first | exact kk _ _ eqx_rf rfl | (exfalso; exact hok ⟨by assumption, by constructor <;> omega⟩)
set_option maxHeartbeats 4000000 in
theorem c_M_wanted {N : Row} {n tn : Nat} {f t : Int32} (G : GeoOK g) (hN : I 102 = N) (ok : okL N n tn) (kk : ∀ J r, eqx [105, 106, 112, 113] I J → r = wantedA N n tn f t → K (some (.int r)) g J) : Cl 6 M_M_wanted [.ref 101, .int f, .int t] g I K := by
  show Rl 6 M_M_wanted 0 [some (.ref 101), some (.int f), some (.int t), none, none, none, none] [] g I K
  obtain ⟨hn, h14, -⟩ := id ok
  by_cases hok : rg 8 f ∧ rg 8 t
  · rw [wantedA, if_pos hok] at kk
    obtain ⟨fr, hf, rfl⟩ := rg_of hok.1 (by omega)
    obtain ⟨to0, ht, rfl⟩ := rg_of hok.2 (by omega)
    rw [nI_clamp (by omega), nI_clamp (by omega)] at kk
    have loop : ∀ q b b0 l0 o6 (J : IM), b + q = n → eqx [105, 106, 112, 113] I J → (match wtS N n tn fr to0 b with | none => b0 = -1 | some p => b0 = nI p.1 ∧ l0 = nI p.2 ∧ p.1 < 14 ∧ p.2 ≤ 1000000) → Rl 6 M_M_wanted 19 [some (.ref 101), some (.int (nI fr)), some (.int (nI to0)), some (.int b0), some (.int l0), some (.int (nI b)), o6] [] g J K := by
      intro q
      induction q with
      | zero =>
        intro b b0 l0 o6 J hb hJ hs
        have hb : b = n := by omega
        subst hb
        have hJN : J 102 = N := (hJ 102 (by decide)).trans hN
        have kk := kk J _ hJ rfl
        cases hl : wtS N b tn fr to0 b with
        | none =>
          rw [hl] at hs kk
          dsimp only at hs
          subst hs
          repeat' (first
            | refine T_iload_n (pc1 := 1) (pc := 0) k_M_wanted_0 rfl rfl ?_
            | refine T_iload_n (pc1 := 2) (pc := 1) k_M_wanted_1 rfl rfl ?_
            | (refine T_cS (As := [_, _]) (d1 := 3) (pc1 := 5) (pc := 2) k_M_wanted_2 rfl (by decide) (Nat.le_of_ble_eq_true rfl) rfl o_M_areSpots l_M_107 rfl (c_M_areSpots (fun hw => ?_) (fun hw => ?_)) <;> try dsimp only [psh])
            | (with_reducible refine T_if_neN (tgt := 11) (pc1 := 8) (pc := 5) k_M_wanted_5 (by decide) (by decide) (by omega) (fun hc => ?_) (fun hc => ?_) <;> first | (exfalso; omega) | skip)
            | refine T_if_ne_t (tgt := 11) (pc := 5) k_M_wanted_5 rfl (by decide) ?_
            | refine T_if_ne_f (tgt := 11) (pc1 := 8) (pc := 5) k_M_wanted_5 rfl rfl (by decide) ?_
            | refine T_if_ne (tgt := 11) (pc1 := 8) (pc := 5) k_M_wanted_5 rfl rfl (fun hc => ?_) (fun hc => ?_)
            | refine T_ldc (v := (-1000000001)) (pc1 := 10) (pc := 8) k_M_wanted_8 rfl c_M_111 ?_
            | refine T_retI (pc := 10) k_M_wanted_10 rfl (by first | rfl | decide | assumption) ?_
            | refine T_iconst (v := (-1)) (pc1 := 12) (pc := 11) k_M_wanted_11 rfl (by decide) ?_
            | refine T_istore_n (pc1 := 13) (pc := 12) k_M_wanted_12 rfl (Nat.le_of_ble_eq_true rfl) ?_
            | refine T_iconst (v := (nI 0)) (pc1 := 14) (pc := 13) k_M_wanted_13 rfl (by decide) ?_
            | refine T_istore (pc1 := 16) (pc := 14) k_M_wanted_14 rfl (Nat.le_of_ble_eq_true rfl) ?_
            | refine T_iconst (v := (nI 0)) (pc1 := 17) (pc := 16) k_M_wanted_16 rfl (by decide) ?_
            | refine T_istore (pc1 := 19) (pc := 17) k_M_wanted_17 rfl (Nat.le_of_ble_eq_true rfl) ?_
            | refine T_iload (pc1 := 21) (pc := 19) k_M_wanted_19 rfl rfl ?_
            | refine T_aload_n (pc1 := 22) (pc := 21) k_M_wanted_21 rfl rfl ?_
            | refine T_aload_nN (pc1 := 22) (pc := 21) k_M_wanted_21 rfl rfl ?_
            | refine T_getR (pc1 := 25) (pc := 22) k_M_wanted_22 rfl f_M_9 rfl (by first | exact ga G (by decide) rfl | assumption) (by first | exact gr G (by decide) rfl | assumption) ?_
            | refine T_iconst (v := (nI 5)) (pc1 := 26) (pc := 25) k_M_wanted_25 rfl (by decide) ?_
            | refine T_ialdN (pc1 := 27) (pc := 26) k_M_wanted_26 rfl (by first | exact ga G (by decide) rfl | assumption) (by omega) (by omega) (by first | assumption | (simp (disch := omega) only [pI_eq, pI_row, pI_col, va_up_self, va_up_ne, ne_eq, not_false_eq_true, hJN, hn] <;> rfl) | rfl) ?_
            | refine T_iald (pc1 := 27) (pc := 26) k_M_wanted_26 rfl (by first | exact ga G (by decide) rfl | assumption) (by assumption) ?_
            | (with_reducible refine T_icmp_geN (tgt := 81) (pc1 := 30) (pc := 27) k_M_wanted_27 (by decide) (by decide) (by omega) (by omega) (fun hc => ?_) (fun hc => ?_) <;> first | (exfalso; omega) | skip)
            | refine T_icmp_ge_t (tgt := 81) (pc := 27) k_M_wanted_27 rfl (by decide) ?_
            | refine T_icmp_ge_f (tgt := 81) (pc1 := 30) (pc := 27) k_M_wanted_27 rfl rfl (by decide) ?_
            | refine T_icmp_ge (tgt := 81) (pc1 := 30) (pc := 27) k_M_wanted_27 rfl rfl (fun hc => ?_) (fun hc => ?_)
            | refine T_aload_n (pc1 := 31) (pc := 30) k_M_wanted_30 rfl rfl ?_
            | refine T_aload_nN (pc1 := 31) (pc := 30) k_M_wanted_30 rfl rfl ?_
            | refine T_iload_n (pc1 := 32) (pc := 31) k_M_wanted_31 rfl rfl ?_
            | refine T_iload_n (pc1 := 33) (pc := 32) k_M_wanted_32 rfl rfl ?_
            | refine T_iload (pc1 := 35) (pc := 33) k_M_wanted_33 rfl rfl ?_
            | (refine T_cV (As := [_, _, _]) (d1 := 5) (pc1 := 38) (pc := 35) k_M_wanted_35 rfl (by decide) (Nat.le_of_ble_eq_true rfl) rfl o_M_bestOf l_M_180 rfl (by first | exact ga G (by decide) rfl | assumption) rfl (c_M_bestOf G hN ok ha hb (fun J hJ hD => ?_)) <;> try dsimp only [psh])
            | refine T_istore (pc1 := 40) (pc := 38) k_M_wanted_38 rfl (Nat.le_of_ble_eq_true rfl) ?_
            | refine T_iload (pc1 := 42) (pc := 40) k_M_wanted_40 rfl rfl ?_
            | refine T_ldc (v := (nI 1000000)) (pc1 := 44) (pc := 42) k_M_wanted_42 rfl c_M_163 ?_
            | (with_reducible refine T_icmp_ltN (tgt := 53) (pc1 := 47) (pc := 44) k_M_wanted_44 (by decide) (by decide) (by omega) (by omega) (fun hc => ?_) (fun hc => ?_) <;> first | (exfalso; omega) | skip)
            | refine T_icmp_lt_t (tgt := 53) (pc := 44) k_M_wanted_44 rfl (by decide) ?_
            | refine T_icmp_lt_f (tgt := 53) (pc1 := 47) (pc := 44) k_M_wanted_44 rfl rfl (by decide) ?_
            | refine T_icmp_lt (tgt := 53) (pc1 := 47) (pc := 44) k_M_wanted_44 rfl rfl (fun hc => ?_) (fun hc => ?_)
            | refine T_sipush (v := (nI 999)) (pc1 := 50) (pc := 47) k_M_wanted_47 rfl (by decide) ?_
            | refine T_goto (tgt := 55) (pc := 50) k_M_wanted_50 rfl ?_
            | refine T_iload (pc1 := 55) (pc := 53) k_M_wanted_53 rfl rfl ?_
            | refine T_istore (pc1 := 57) (pc := 55) k_M_wanted_55 rfl (Nat.le_of_ble_eq_true rfl) ?_
            | refine T_iload_n (pc1 := 58) (pc := 57) k_M_wanted_57 rfl rfl ?_
            | (with_reducible refine T_if_ltN (tgt := 68) (pc1 := 61) (pc := 58) k_M_wanted_58 (by decide) (by decide) (by omega) ?_ <;> first | (exfalso; omega) | skip)
            | refine T_if_lt_t (tgt := 68) (pc := 58) k_M_wanted_58 rfl (by decide) ?_
            | refine T_if_lt_f (tgt := 68) (pc1 := 61) (pc := 58) k_M_wanted_58 rfl rfl (by decide) ?_
            | refine T_if_lt (tgt := 68) (pc1 := 61) (pc := 58) k_M_wanted_58 rfl rfl (fun hc => ?_) (fun hc => ?_)
            | refine T_iload (pc1 := 63) (pc := 61) k_M_wanted_61 rfl rfl ?_
            | refine T_iload (pc1 := 65) (pc := 63) k_M_wanted_63 rfl rfl ?_
            | (with_reducible refine T_icmp_leN (tgt := 75) (pc1 := 68) (pc := 65) k_M_wanted_65 (by decide) (by decide) (by omega) (by omega) (fun hc => ?_) (fun hc => ?_) <;> first | (exfalso; omega) | skip)
            | refine T_icmp_le_t (tgt := 75) (pc := 65) k_M_wanted_65 rfl (by decide) ?_
            | refine T_icmp_le_f (tgt := 75) (pc1 := 68) (pc := 65) k_M_wanted_65 rfl rfl (by decide) ?_
            | refine T_icmp_le (tgt := 75) (pc1 := 68) (pc := 65) k_M_wanted_65 rfl rfl (fun hc => ?_) (fun hc => ?_)
            | refine T_iload (pc1 := 70) (pc := 68) k_M_wanted_68 rfl rfl ?_
            | refine T_istore (pc1 := 72) (pc := 70) k_M_wanted_70 rfl (Nat.le_of_ble_eq_true rfl) ?_
            | refine T_iload (pc1 := 74) (pc := 72) k_M_wanted_72 rfl rfl ?_
            | refine T_istore_n (pc1 := 75) (pc := 74) k_M_wanted_74 rfl (Nat.le_of_ble_eq_true rfl) ?_
            | refine T_iincN (b := 1) (pc1 := 78) (pc := 75) k_M_wanted_75 rfl rfl (by decide) ?_
            | refine T_iinc (v := (nI 1)) (pc1 := 78) (pc := 75) k_M_wanted_75 rfl rfl (by decide) ?_
            | refine T_goto (tgt := 19) (pc := 78) k_M_wanted_78 rfl ?_
            | refine T_iload_n (pc1 := 82) (pc := 81) k_M_wanted_81 rfl rfl ?_
            | (with_reducible refine T_if_geN (tgt := 90) (pc1 := 85) (pc := 82) k_M_wanted_82 (by decide) (by decide) (by omega) ?_ <;> first | (exfalso; omega) | skip)
            | refine T_if_ge_t (tgt := 90) (pc := 82) k_M_wanted_82 rfl (by decide) ?_
            | refine T_if_ge_f (tgt := 90) (pc1 := 85) (pc := 82) k_M_wanted_82 rfl rfl (by decide) ?_
            | refine T_if_ge (tgt := 90) (pc1 := 85) (pc := 82) k_M_wanted_82 rfl rfl (fun hc => ?_) (fun hc => ?_)
            | refine T_ldc (v := (-1000000005)) (pc1 := 87) (pc := 85) k_M_wanted_85 rfl c_M_103 ?_
            | refine T_goto (tgt := 91) (pc := 87) k_M_wanted_87 rfl ?_
            | refine T_iload_n (pc1 := 91) (pc := 90) k_M_wanted_90 rfl rfl ?_
            | refine T_retI (pc := 91) k_M_wanted_91 rfl (by first | rfl | decide | assumption) ?_)
          exact kk
        | some p =>
          rw [hl] at hs kk
          dsimp only at hs
          obtain ⟨rfl, rfl, hp1, hp2⟩ := hs
          repeat' (first
            | refine T_iload_n (pc1 := 1) (pc := 0) k_M_wanted_0 rfl rfl ?_
            | refine T_iload_n (pc1 := 2) (pc := 1) k_M_wanted_1 rfl rfl ?_
            | (refine T_cS (As := [_, _]) (d1 := 3) (pc1 := 5) (pc := 2) k_M_wanted_2 rfl (by decide) (Nat.le_of_ble_eq_true rfl) rfl o_M_areSpots l_M_107 rfl (c_M_areSpots (fun hw => ?_) (fun hw => ?_)) <;> try dsimp only [psh])
            | (with_reducible refine T_if_neN (tgt := 11) (pc1 := 8) (pc := 5) k_M_wanted_5 (by decide) (by decide) (by omega) (fun hc => ?_) (fun hc => ?_) <;> first | (exfalso; omega) | skip)
            | refine T_if_ne_t (tgt := 11) (pc := 5) k_M_wanted_5 rfl (by decide) ?_
            | refine T_if_ne_f (tgt := 11) (pc1 := 8) (pc := 5) k_M_wanted_5 rfl rfl (by decide) ?_
            | refine T_if_ne (tgt := 11) (pc1 := 8) (pc := 5) k_M_wanted_5 rfl rfl (fun hc => ?_) (fun hc => ?_)
            | refine T_ldc (v := (-1000000001)) (pc1 := 10) (pc := 8) k_M_wanted_8 rfl c_M_111 ?_
            | refine T_retI (pc := 10) k_M_wanted_10 rfl (by first | rfl | decide | assumption) ?_
            | refine T_iconst (v := (-1)) (pc1 := 12) (pc := 11) k_M_wanted_11 rfl (by decide) ?_
            | refine T_istore_n (pc1 := 13) (pc := 12) k_M_wanted_12 rfl (Nat.le_of_ble_eq_true rfl) ?_
            | refine T_iconst (v := (nI 0)) (pc1 := 14) (pc := 13) k_M_wanted_13 rfl (by decide) ?_
            | refine T_istore (pc1 := 16) (pc := 14) k_M_wanted_14 rfl (Nat.le_of_ble_eq_true rfl) ?_
            | refine T_iconst (v := (nI 0)) (pc1 := 17) (pc := 16) k_M_wanted_16 rfl (by decide) ?_
            | refine T_istore (pc1 := 19) (pc := 17) k_M_wanted_17 rfl (Nat.le_of_ble_eq_true rfl) ?_
            | refine T_iload (pc1 := 21) (pc := 19) k_M_wanted_19 rfl rfl ?_
            | refine T_aload_n (pc1 := 22) (pc := 21) k_M_wanted_21 rfl rfl ?_
            | refine T_aload_nN (pc1 := 22) (pc := 21) k_M_wanted_21 rfl rfl ?_
            | refine T_getR (pc1 := 25) (pc := 22) k_M_wanted_22 rfl f_M_9 rfl (by first | exact ga G (by decide) rfl | assumption) (by first | exact gr G (by decide) rfl | assumption) ?_
            | refine T_iconst (v := (nI 5)) (pc1 := 26) (pc := 25) k_M_wanted_25 rfl (by decide) ?_
            | refine T_ialdN (pc1 := 27) (pc := 26) k_M_wanted_26 rfl (by first | exact ga G (by decide) rfl | assumption) (by omega) (by omega) (by first | assumption | (simp (disch := omega) only [pI_eq, pI_row, pI_col, va_up_self, va_up_ne, ne_eq, not_false_eq_true, hJN, hn] <;> rfl) | rfl) ?_
            | refine T_iald (pc1 := 27) (pc := 26) k_M_wanted_26 rfl (by first | exact ga G (by decide) rfl | assumption) (by assumption) ?_
            | (with_reducible refine T_icmp_geN (tgt := 81) (pc1 := 30) (pc := 27) k_M_wanted_27 (by decide) (by decide) (by omega) (by omega) (fun hc => ?_) (fun hc => ?_) <;> first | (exfalso; omega) | skip)
            | refine T_icmp_ge_t (tgt := 81) (pc := 27) k_M_wanted_27 rfl (by decide) ?_
            | refine T_icmp_ge_f (tgt := 81) (pc1 := 30) (pc := 27) k_M_wanted_27 rfl rfl (by decide) ?_
            | refine T_icmp_ge (tgt := 81) (pc1 := 30) (pc := 27) k_M_wanted_27 rfl rfl (fun hc => ?_) (fun hc => ?_)
            | refine T_aload_n (pc1 := 31) (pc := 30) k_M_wanted_30 rfl rfl ?_
            | refine T_aload_nN (pc1 := 31) (pc := 30) k_M_wanted_30 rfl rfl ?_
            | refine T_iload_n (pc1 := 32) (pc := 31) k_M_wanted_31 rfl rfl ?_
            | refine T_iload_n (pc1 := 33) (pc := 32) k_M_wanted_32 rfl rfl ?_
            | refine T_iload (pc1 := 35) (pc := 33) k_M_wanted_33 rfl rfl ?_
            | (refine T_cV (As := [_, _, _]) (d1 := 5) (pc1 := 38) (pc := 35) k_M_wanted_35 rfl (by decide) (Nat.le_of_ble_eq_true rfl) rfl o_M_bestOf l_M_180 rfl (by first | exact ga G (by decide) rfl | assumption) rfl (c_M_bestOf G hN ok ha hb (fun J hJ hD => ?_)) <;> try dsimp only [psh])
            | refine T_istore (pc1 := 40) (pc := 38) k_M_wanted_38 rfl (Nat.le_of_ble_eq_true rfl) ?_
            | refine T_iload (pc1 := 42) (pc := 40) k_M_wanted_40 rfl rfl ?_
            | refine T_ldc (v := (nI 1000000)) (pc1 := 44) (pc := 42) k_M_wanted_42 rfl c_M_163 ?_
            | (with_reducible refine T_icmp_ltN (tgt := 53) (pc1 := 47) (pc := 44) k_M_wanted_44 (by decide) (by decide) (by omega) (by omega) (fun hc => ?_) (fun hc => ?_) <;> first | (exfalso; omega) | skip)
            | refine T_icmp_lt_t (tgt := 53) (pc := 44) k_M_wanted_44 rfl (by decide) ?_
            | refine T_icmp_lt_f (tgt := 53) (pc1 := 47) (pc := 44) k_M_wanted_44 rfl rfl (by decide) ?_
            | refine T_icmp_lt (tgt := 53) (pc1 := 47) (pc := 44) k_M_wanted_44 rfl rfl (fun hc => ?_) (fun hc => ?_)
            | refine T_sipush (v := (nI 999)) (pc1 := 50) (pc := 47) k_M_wanted_47 rfl (by decide) ?_
            | refine T_goto (tgt := 55) (pc := 50) k_M_wanted_50 rfl ?_
            | refine T_iload (pc1 := 55) (pc := 53) k_M_wanted_53 rfl rfl ?_
            | refine T_istore (pc1 := 57) (pc := 55) k_M_wanted_55 rfl (Nat.le_of_ble_eq_true rfl) ?_
            | refine T_iload_n (pc1 := 58) (pc := 57) k_M_wanted_57 rfl rfl ?_
            | (with_reducible refine T_if_ltN (tgt := 68) (pc1 := 61) (pc := 58) k_M_wanted_58 (by decide) (by decide) (by omega) ?_ <;> first | (exfalso; omega) | skip)
            | refine T_if_lt_t (tgt := 68) (pc := 58) k_M_wanted_58 rfl (by decide) ?_
            | refine T_if_lt_f (tgt := 68) (pc1 := 61) (pc := 58) k_M_wanted_58 rfl rfl (by decide) ?_
            | refine T_if_lt (tgt := 68) (pc1 := 61) (pc := 58) k_M_wanted_58 rfl rfl (fun hc => ?_) (fun hc => ?_)
            | refine T_iload (pc1 := 63) (pc := 61) k_M_wanted_61 rfl rfl ?_
            | refine T_iload (pc1 := 65) (pc := 63) k_M_wanted_63 rfl rfl ?_
            | (with_reducible refine T_icmp_leN (tgt := 75) (pc1 := 68) (pc := 65) k_M_wanted_65 (by decide) (by decide) (by omega) (by omega) (fun hc => ?_) (fun hc => ?_) <;> first | (exfalso; omega) | skip)
            | refine T_icmp_le_t (tgt := 75) (pc := 65) k_M_wanted_65 rfl (by decide) ?_
            | refine T_icmp_le_f (tgt := 75) (pc1 := 68) (pc := 65) k_M_wanted_65 rfl rfl (by decide) ?_
            | refine T_icmp_le (tgt := 75) (pc1 := 68) (pc := 65) k_M_wanted_65 rfl rfl (fun hc => ?_) (fun hc => ?_)
            | refine T_iload (pc1 := 70) (pc := 68) k_M_wanted_68 rfl rfl ?_
            | refine T_istore (pc1 := 72) (pc := 70) k_M_wanted_70 rfl (Nat.le_of_ble_eq_true rfl) ?_
            | refine T_iload (pc1 := 74) (pc := 72) k_M_wanted_72 rfl rfl ?_
            | refine T_istore_n (pc1 := 75) (pc := 74) k_M_wanted_74 rfl (Nat.le_of_ble_eq_true rfl) ?_
            | refine T_iincN (b := 1) (pc1 := 78) (pc := 75) k_M_wanted_75 rfl rfl (by decide) ?_
            | refine T_iinc (v := (nI 1)) (pc1 := 78) (pc := 75) k_M_wanted_75 rfl rfl (by decide) ?_
            | refine T_goto (tgt := 19) (pc := 78) k_M_wanted_78 rfl ?_
            | refine T_iload_n (pc1 := 82) (pc := 81) k_M_wanted_81 rfl rfl ?_
            | (with_reducible refine T_if_geN (tgt := 90) (pc1 := 85) (pc := 82) k_M_wanted_82 (by decide) (by decide) (by omega) ?_ <;> first | (exfalso; omega) | skip)
            | refine T_if_ge_t (tgt := 90) (pc := 82) k_M_wanted_82 rfl (by decide) ?_
            | refine T_if_ge_f (tgt := 90) (pc1 := 85) (pc := 82) k_M_wanted_82 rfl rfl (by decide) ?_
            | refine T_if_ge (tgt := 90) (pc1 := 85) (pc := 82) k_M_wanted_82 rfl rfl (fun hc => ?_) (fun hc => ?_)
            | refine T_ldc (v := (-1000000005)) (pc1 := 87) (pc := 85) k_M_wanted_85 rfl c_M_103 ?_
            | refine T_goto (tgt := 91) (pc := 87) k_M_wanted_87 rfl ?_
            | refine T_iload_n (pc1 := 91) (pc := 90) k_M_wanted_90 rfl rfl ?_
            | refine T_retI (pc := 91) k_M_wanted_91 rfl (by first | rfl | decide | assumption) ?_)
          exact kk
      | succ q ih =>
        intro b b0 l0 o6 J hb hJ hs
        have hbn : b < n := by omega
        have hJN : J 102 = N := (hJ 102 (by decide)).trans hN
        have hle := bst_le (fr := fr) (to0 := to0) (w := nI b) ok
        have ih := ih (b + 1)
        unfold wtS at ih hs
        rw [sel] at ih
        refine T_iload (pc1 := 21) (pc := 19) k_M_wanted_19 rfl rfl ?_
        have nx : ∀ (J2 : IM) o, eqx [105, 106, 112, 113] J J2 → Rl 6 M_M_wanted 55 [some (.ref 101), some (.int (nI fr)), some (.int (nI to0)), some (.int b0), some (.int l0), some (.int (nI b)), o] [.int (nI (wtM N n tn fr to0 b))] g J2 K := by
          intro J2 o hJ2
          have hm : wtM N n tn fr to0 b ≤ 1000000 := by unfold wtM; split <;> omega
          cases hl : sel (fun a b => decide (b < a)) (wtM N n tn fr to0) b with
          | none =>
            rw [hl] at hs ih
            dsimp only at hs ih
            subst hs
            repeat' (first
              | refine T_iload_n (pc1 := 1) (pc := 0) k_M_wanted_0 rfl rfl ?_
              | refine T_iload_n (pc1 := 2) (pc := 1) k_M_wanted_1 rfl rfl ?_
              | (refine T_cS (As := [_, _]) (d1 := 3) (pc1 := 5) (pc := 2) k_M_wanted_2 rfl (by decide) (Nat.le_of_ble_eq_true rfl) rfl o_M_areSpots l_M_107 rfl (c_M_areSpots (fun hw => ?_) (fun hw => ?_)) <;> try dsimp only [psh])
              | (with_reducible refine T_if_neN (tgt := 11) (pc1 := 8) (pc := 5) k_M_wanted_5 (by decide) (by decide) (by omega) (fun hc => ?_) (fun hc => ?_) <;> first | (exfalso; omega) | skip)
              | refine T_if_ne_t (tgt := 11) (pc := 5) k_M_wanted_5 rfl (by decide) ?_
              | refine T_if_ne_f (tgt := 11) (pc1 := 8) (pc := 5) k_M_wanted_5 rfl rfl (by decide) ?_
              | refine T_if_ne (tgt := 11) (pc1 := 8) (pc := 5) k_M_wanted_5 rfl rfl (fun hc => ?_) (fun hc => ?_)
              | refine T_ldc (v := (-1000000001)) (pc1 := 10) (pc := 8) k_M_wanted_8 rfl c_M_111 ?_
              | refine T_retI (pc := 10) k_M_wanted_10 rfl (by first | rfl | decide | assumption) ?_
              | refine T_iconst (v := (-1)) (pc1 := 12) (pc := 11) k_M_wanted_11 rfl (by decide) ?_
              | refine T_istore_n (pc1 := 13) (pc := 12) k_M_wanted_12 rfl (Nat.le_of_ble_eq_true rfl) ?_
              | refine T_iconst (v := (nI 0)) (pc1 := 14) (pc := 13) k_M_wanted_13 rfl (by decide) ?_
              | refine T_istore (pc1 := 16) (pc := 14) k_M_wanted_14 rfl (Nat.le_of_ble_eq_true rfl) ?_
              | refine T_iconst (v := (nI 0)) (pc1 := 17) (pc := 16) k_M_wanted_16 rfl (by decide) ?_
              | refine T_istore (pc1 := 19) (pc := 17) k_M_wanted_17 rfl (Nat.le_of_ble_eq_true rfl) ?_
              | refine T_aload_n (pc1 := 22) (pc := 21) k_M_wanted_21 rfl rfl ?_
              | refine T_aload_nN (pc1 := 22) (pc := 21) k_M_wanted_21 rfl rfl ?_
              | refine T_getR (pc1 := 25) (pc := 22) k_M_wanted_22 rfl f_M_9 rfl (by first | exact ga G (by decide) rfl | assumption) (by first | exact gr G (by decide) rfl | assumption) ?_
              | refine T_iconst (v := (nI 5)) (pc1 := 26) (pc := 25) k_M_wanted_25 rfl (by decide) ?_
              | refine T_ialdN (pc1 := 27) (pc := 26) k_M_wanted_26 rfl (by first | exact ga G (by decide) rfl | assumption) (by omega) (by omega) (by first | assumption | (simp (disch := omega) only [pI_eq, pI_row, pI_col, va_up_self, va_up_ne, ne_eq, not_false_eq_true, hJN, hn] <;> rfl) | rfl) ?_
              | refine T_iald (pc1 := 27) (pc := 26) k_M_wanted_26 rfl (by first | exact ga G (by decide) rfl | assumption) (by assumption) ?_
              | (with_reducible refine T_icmp_geN (tgt := 81) (pc1 := 30) (pc := 27) k_M_wanted_27 (by decide) (by decide) (by omega) (by omega) (fun hc => ?_) (fun hc => ?_) <;> first | (exfalso; omega) | skip)
              | refine T_icmp_ge_t (tgt := 81) (pc := 27) k_M_wanted_27 rfl (by decide) ?_
              | refine T_icmp_ge_f (tgt := 81) (pc1 := 30) (pc := 27) k_M_wanted_27 rfl rfl (by decide) ?_
              | refine T_icmp_ge (tgt := 81) (pc1 := 30) (pc := 27) k_M_wanted_27 rfl rfl (fun hc => ?_) (fun hc => ?_)
              | refine T_aload_n (pc1 := 31) (pc := 30) k_M_wanted_30 rfl rfl ?_
              | refine T_aload_nN (pc1 := 31) (pc := 30) k_M_wanted_30 rfl rfl ?_
              | refine T_iload_n (pc1 := 32) (pc := 31) k_M_wanted_31 rfl rfl ?_
              | refine T_iload_n (pc1 := 33) (pc := 32) k_M_wanted_32 rfl rfl ?_
              | refine T_iload (pc1 := 35) (pc := 33) k_M_wanted_33 rfl rfl ?_
              | (refine T_cV (As := [_, _, _]) (d1 := 5) (pc1 := 38) (pc := 35) k_M_wanted_35 rfl (by decide) (Nat.le_of_ble_eq_true rfl) rfl o_M_bestOf l_M_180 rfl (by first | exact ga G (by decide) rfl | assumption) rfl (c_M_bestOf G hJN ok hf ht (fun J2 hJ2 hD => ?_)) <;> try dsimp only [psh])
              | refine T_istore (pc1 := 40) (pc := 38) k_M_wanted_38 rfl (Nat.le_of_ble_eq_true rfl) ?_
              | refine T_iload (pc1 := 42) (pc := 40) k_M_wanted_40 rfl rfl ?_
              | refine T_ldc (v := (nI 1000000)) (pc1 := 44) (pc := 42) k_M_wanted_42 rfl c_M_163 ?_
              | (with_reducible refine T_icmp_ltN (tgt := 53) (pc1 := 47) (pc := 44) k_M_wanted_44 (by decide) (by decide) (by omega) (by omega) (fun hc => ?_) (fun hc => ?_) <;> first | (exfalso; omega) | skip)
              | refine T_icmp_lt_t (tgt := 53) (pc := 44) k_M_wanted_44 rfl (by decide) ?_
              | refine T_icmp_lt_f (tgt := 53) (pc1 := 47) (pc := 44) k_M_wanted_44 rfl rfl (by decide) ?_
              | refine T_icmp_lt (tgt := 53) (pc1 := 47) (pc := 44) k_M_wanted_44 rfl rfl (fun hc => ?_) (fun hc => ?_)
              | refine T_sipush (v := (nI 999)) (pc1 := 50) (pc := 47) k_M_wanted_47 rfl (by decide) ?_
              | refine T_goto (tgt := 55) (pc := 50) k_M_wanted_50 rfl ?_
              | refine T_iload (pc1 := 55) (pc := 53) k_M_wanted_53 rfl rfl ?_
              | refine T_istore (pc1 := 57) (pc := 55) k_M_wanted_55 rfl (Nat.le_of_ble_eq_true rfl) ?_
              | refine T_iload_n (pc1 := 58) (pc := 57) k_M_wanted_57 rfl rfl ?_
              | (with_reducible refine T_if_ltN (tgt := 68) (pc1 := 61) (pc := 58) k_M_wanted_58 (by decide) (by decide) (by omega) ?_ <;> first | (exfalso; omega) | skip)
              | refine T_if_lt_t (tgt := 68) (pc := 58) k_M_wanted_58 rfl (by decide) ?_
              | refine T_if_lt_f (tgt := 68) (pc1 := 61) (pc := 58) k_M_wanted_58 rfl rfl (by decide) ?_
              | refine T_if_lt (tgt := 68) (pc1 := 61) (pc := 58) k_M_wanted_58 rfl rfl (fun hc => ?_) (fun hc => ?_)
              | refine T_iload (pc1 := 63) (pc := 61) k_M_wanted_61 rfl rfl ?_
              | refine T_iload (pc1 := 65) (pc := 63) k_M_wanted_63 rfl rfl ?_
              | (with_reducible refine T_icmp_leN (tgt := 75) (pc1 := 68) (pc := 65) k_M_wanted_65 (by decide) (by decide) (by omega) (by omega) (fun hc => ?_) (fun hc => ?_) <;> first | (exfalso; omega) | skip)
              | refine T_icmp_le_t (tgt := 75) (pc := 65) k_M_wanted_65 rfl (by decide) ?_
              | refine T_icmp_le_f (tgt := 75) (pc1 := 68) (pc := 65) k_M_wanted_65 rfl rfl (by decide) ?_
              | refine T_icmp_le (tgt := 75) (pc1 := 68) (pc := 65) k_M_wanted_65 rfl rfl (fun hc => ?_) (fun hc => ?_)
              | refine T_iload (pc1 := 70) (pc := 68) k_M_wanted_68 rfl rfl ?_
              | refine T_istore (pc1 := 72) (pc := 70) k_M_wanted_70 rfl (Nat.le_of_ble_eq_true rfl) ?_
              | refine T_iload (pc1 := 74) (pc := 72) k_M_wanted_72 rfl rfl ?_
              | refine T_istore_n (pc1 := 75) (pc := 74) k_M_wanted_74 rfl (Nat.le_of_ble_eq_true rfl) ?_
              | refine T_iincN (b := 1) (pc1 := 78) (pc := 75) k_M_wanted_75 rfl rfl (by decide) ?_
              | refine T_iinc (v := (nI 1)) (pc1 := 78) (pc := 75) k_M_wanted_75 rfl rfl (by decide) ?_
              | refine T_goto (tgt := 19) (pc := 78) k_M_wanted_78 rfl ?_
              | refine T_iload_n (pc1 := 82) (pc := 81) k_M_wanted_81 rfl rfl ?_
              | (with_reducible refine T_if_geN (tgt := 90) (pc1 := 85) (pc := 82) k_M_wanted_82 (by decide) (by decide) (by omega) ?_ <;> first | (exfalso; omega) | skip)
              | refine T_if_ge_t (tgt := 90) (pc := 82) k_M_wanted_82 rfl (by decide) ?_
              | refine T_if_ge_f (tgt := 90) (pc1 := 85) (pc := 82) k_M_wanted_82 rfl rfl (by decide) ?_
              | refine T_if_ge (tgt := 90) (pc1 := 85) (pc := 82) k_M_wanted_82 rfl rfl (fun hc => ?_) (fun hc => ?_)
              | refine T_ldc (v := (-1000000005)) (pc1 := 87) (pc := 85) k_M_wanted_85 rfl c_M_103 ?_
              | refine T_goto (tgt := 91) (pc := 87) k_M_wanted_87 rfl ?_
              | refine T_iload_n (pc1 := 91) (pc := 90) k_M_wanted_90 rfl rfl ?_
              | refine T_retI (pc := 91) k_M_wanted_91 rfl (by first | rfl | decide | assumption) ?_)
            exact ih _ _ _ J2 (by omega) (eqx_tr hJ hJ2) ⟨rfl, rfl, by omega, hm⟩
          | some p =>
            rw [hl] at hs ih
            dsimp only at hs ih
            obtain ⟨rfl, rfl, hp1, hp2⟩ := hs
            repeat' (first
              | refine T_iload_n (pc1 := 1) (pc := 0) k_M_wanted_0 rfl rfl ?_
              | refine T_iload_n (pc1 := 2) (pc := 1) k_M_wanted_1 rfl rfl ?_
              | (refine T_cS (As := [_, _]) (d1 := 3) (pc1 := 5) (pc := 2) k_M_wanted_2 rfl (by decide) (Nat.le_of_ble_eq_true rfl) rfl o_M_areSpots l_M_107 rfl (c_M_areSpots (fun hw => ?_) (fun hw => ?_)) <;> try dsimp only [psh])
              | (with_reducible refine T_if_neN (tgt := 11) (pc1 := 8) (pc := 5) k_M_wanted_5 (by decide) (by decide) (by omega) (fun hc => ?_) (fun hc => ?_) <;> first | (exfalso; omega) | skip)
              | refine T_if_ne_t (tgt := 11) (pc := 5) k_M_wanted_5 rfl (by decide) ?_
              | refine T_if_ne_f (tgt := 11) (pc1 := 8) (pc := 5) k_M_wanted_5 rfl rfl (by decide) ?_
              | refine T_if_ne (tgt := 11) (pc1 := 8) (pc := 5) k_M_wanted_5 rfl rfl (fun hc => ?_) (fun hc => ?_)
              | refine T_ldc (v := (-1000000001)) (pc1 := 10) (pc := 8) k_M_wanted_8 rfl c_M_111 ?_
              | refine T_retI (pc := 10) k_M_wanted_10 rfl (by first | rfl | decide | assumption) ?_
              | refine T_iconst (v := (-1)) (pc1 := 12) (pc := 11) k_M_wanted_11 rfl (by decide) ?_
              | refine T_istore_n (pc1 := 13) (pc := 12) k_M_wanted_12 rfl (Nat.le_of_ble_eq_true rfl) ?_
              | refine T_iconst (v := (nI 0)) (pc1 := 14) (pc := 13) k_M_wanted_13 rfl (by decide) ?_
              | refine T_istore (pc1 := 16) (pc := 14) k_M_wanted_14 rfl (Nat.le_of_ble_eq_true rfl) ?_
              | refine T_iconst (v := (nI 0)) (pc1 := 17) (pc := 16) k_M_wanted_16 rfl (by decide) ?_
              | refine T_istore (pc1 := 19) (pc := 17) k_M_wanted_17 rfl (Nat.le_of_ble_eq_true rfl) ?_
              | refine T_aload_n (pc1 := 22) (pc := 21) k_M_wanted_21 rfl rfl ?_
              | refine T_aload_nN (pc1 := 22) (pc := 21) k_M_wanted_21 rfl rfl ?_
              | refine T_getR (pc1 := 25) (pc := 22) k_M_wanted_22 rfl f_M_9 rfl (by first | exact ga G (by decide) rfl | assumption) (by first | exact gr G (by decide) rfl | assumption) ?_
              | refine T_iconst (v := (nI 5)) (pc1 := 26) (pc := 25) k_M_wanted_25 rfl (by decide) ?_
              | refine T_ialdN (pc1 := 27) (pc := 26) k_M_wanted_26 rfl (by first | exact ga G (by decide) rfl | assumption) (by omega) (by omega) (by first | assumption | (simp (disch := omega) only [pI_eq, pI_row, pI_col, va_up_self, va_up_ne, ne_eq, not_false_eq_true, hJN, hn] <;> rfl) | rfl) ?_
              | refine T_iald (pc1 := 27) (pc := 26) k_M_wanted_26 rfl (by first | exact ga G (by decide) rfl | assumption) (by assumption) ?_
              | (with_reducible refine T_icmp_geN (tgt := 81) (pc1 := 30) (pc := 27) k_M_wanted_27 (by decide) (by decide) (by omega) (by omega) (fun hc => ?_) (fun hc => ?_) <;> first | (exfalso; omega) | skip)
              | refine T_icmp_ge_t (tgt := 81) (pc := 27) k_M_wanted_27 rfl (by decide) ?_
              | refine T_icmp_ge_f (tgt := 81) (pc1 := 30) (pc := 27) k_M_wanted_27 rfl rfl (by decide) ?_
              | refine T_icmp_ge (tgt := 81) (pc1 := 30) (pc := 27) k_M_wanted_27 rfl rfl (fun hc => ?_) (fun hc => ?_)
              | refine T_aload_n (pc1 := 31) (pc := 30) k_M_wanted_30 rfl rfl ?_
              | refine T_aload_nN (pc1 := 31) (pc := 30) k_M_wanted_30 rfl rfl ?_
              | refine T_iload_n (pc1 := 32) (pc := 31) k_M_wanted_31 rfl rfl ?_
              | refine T_iload_n (pc1 := 33) (pc := 32) k_M_wanted_32 rfl rfl ?_
              | refine T_iload (pc1 := 35) (pc := 33) k_M_wanted_33 rfl rfl ?_
              | (refine T_cV (As := [_, _, _]) (d1 := 5) (pc1 := 38) (pc := 35) k_M_wanted_35 rfl (by decide) (Nat.le_of_ble_eq_true rfl) rfl o_M_bestOf l_M_180 rfl (by first | exact ga G (by decide) rfl | assumption) rfl (c_M_bestOf G hJN ok hf ht (fun J2 hJ2 hD => ?_)) <;> try dsimp only [psh])
              | refine T_istore (pc1 := 40) (pc := 38) k_M_wanted_38 rfl (Nat.le_of_ble_eq_true rfl) ?_
              | refine T_iload (pc1 := 42) (pc := 40) k_M_wanted_40 rfl rfl ?_
              | refine T_ldc (v := (nI 1000000)) (pc1 := 44) (pc := 42) k_M_wanted_42 rfl c_M_163 ?_
              | (with_reducible refine T_icmp_ltN (tgt := 53) (pc1 := 47) (pc := 44) k_M_wanted_44 (by decide) (by decide) (by omega) (by omega) (fun hc => ?_) (fun hc => ?_) <;> first | (exfalso; omega) | skip)
              | refine T_icmp_lt_t (tgt := 53) (pc := 44) k_M_wanted_44 rfl (by decide) ?_
              | refine T_icmp_lt_f (tgt := 53) (pc1 := 47) (pc := 44) k_M_wanted_44 rfl rfl (by decide) ?_
              | refine T_icmp_lt (tgt := 53) (pc1 := 47) (pc := 44) k_M_wanted_44 rfl rfl (fun hc => ?_) (fun hc => ?_)
              | refine T_sipush (v := (nI 999)) (pc1 := 50) (pc := 47) k_M_wanted_47 rfl (by decide) ?_
              | refine T_goto (tgt := 55) (pc := 50) k_M_wanted_50 rfl ?_
              | refine T_iload (pc1 := 55) (pc := 53) k_M_wanted_53 rfl rfl ?_
              | refine T_istore (pc1 := 57) (pc := 55) k_M_wanted_55 rfl (Nat.le_of_ble_eq_true rfl) ?_
              | refine T_iload_n (pc1 := 58) (pc := 57) k_M_wanted_57 rfl rfl ?_
              | (with_reducible refine T_if_ltN (tgt := 68) (pc1 := 61) (pc := 58) k_M_wanted_58 (by decide) (by decide) (by omega) ?_ <;> first | (exfalso; omega) | skip)
              | refine T_if_lt_t (tgt := 68) (pc := 58) k_M_wanted_58 rfl (by decide) ?_
              | refine T_if_lt_f (tgt := 68) (pc1 := 61) (pc := 58) k_M_wanted_58 rfl rfl (by decide) ?_
              | refine T_if_lt (tgt := 68) (pc1 := 61) (pc := 58) k_M_wanted_58 rfl rfl (fun hc => ?_) (fun hc => ?_)
              | refine T_iload (pc1 := 63) (pc := 61) k_M_wanted_61 rfl rfl ?_
              | refine T_iload (pc1 := 65) (pc := 63) k_M_wanted_63 rfl rfl ?_
              | (with_reducible refine T_icmp_leN (tgt := 75) (pc1 := 68) (pc := 65) k_M_wanted_65 (by decide) (by decide) (by omega) (by omega) (fun hc => ?_) (fun hc => ?_) <;> first | (exfalso; omega) | skip)
              | refine T_icmp_le_t (tgt := 75) (pc := 65) k_M_wanted_65 rfl (by decide) ?_
              | refine T_icmp_le_f (tgt := 75) (pc1 := 68) (pc := 65) k_M_wanted_65 rfl rfl (by decide) ?_
              | refine T_icmp_le (tgt := 75) (pc1 := 68) (pc := 65) k_M_wanted_65 rfl rfl (fun hc => ?_) (fun hc => ?_)
              | refine T_iload (pc1 := 70) (pc := 68) k_M_wanted_68 rfl rfl ?_
              | refine T_istore (pc1 := 72) (pc := 70) k_M_wanted_70 rfl (Nat.le_of_ble_eq_true rfl) ?_
              | refine T_iload (pc1 := 74) (pc := 72) k_M_wanted_72 rfl rfl ?_
              | refine T_istore_n (pc1 := 75) (pc := 74) k_M_wanted_74 rfl (Nat.le_of_ble_eq_true rfl) ?_
              | refine T_iincN (b := 1) (pc1 := 78) (pc := 75) k_M_wanted_75 rfl rfl (by decide) ?_
              | refine T_iinc (v := (nI 1)) (pc1 := 78) (pc := 75) k_M_wanted_75 rfl rfl (by decide) ?_
              | refine T_goto (tgt := 19) (pc := 78) k_M_wanted_78 rfl ?_
              | refine T_iload_n (pc1 := 82) (pc := 81) k_M_wanted_81 rfl rfl ?_
              | (with_reducible refine T_if_geN (tgt := 90) (pc1 := 85) (pc := 82) k_M_wanted_82 (by decide) (by decide) (by omega) ?_ <;> first | (exfalso; omega) | skip)
              | refine T_if_ge_t (tgt := 90) (pc := 82) k_M_wanted_82 rfl (by decide) ?_
              | refine T_if_ge_f (tgt := 90) (pc1 := 85) (pc := 82) k_M_wanted_82 rfl rfl (by decide) ?_
              | refine T_if_ge (tgt := 90) (pc1 := 85) (pc := 82) k_M_wanted_82 rfl rfl (fun hc => ?_) (fun hc => ?_)
              | refine T_ldc (v := (-1000000005)) (pc1 := 87) (pc := 85) k_M_wanted_85 rfl c_M_103 ?_
              | refine T_goto (tgt := 91) (pc := 87) k_M_wanted_87 rfl ?_
              | refine T_iload_n (pc1 := 91) (pc := 90) k_M_wanted_90 rfl rfl ?_
              | refine T_retI (pc := 91) k_M_wanted_91 rfl (by first | rfl | decide | assumption) ?_)
            · rw [if_neg (by rw [decide_eq_true_eq]; omega)] at ih
              exact ih _ _ _ J2 (by omega) (eqx_tr hJ hJ2) ⟨rfl, rfl, hp1, hp2⟩
            · rw [if_pos (by rw [decide_eq_true_eq]; omega)] at ih
              exact ih _ _ _ J2 (by omega) (eqx_tr hJ hJ2) ⟨rfl, rfl, by show b < 14; omega, hm⟩
        repeat' (first
          | refine T_iload_n (pc1 := 1) (pc := 0) k_M_wanted_0 rfl rfl ?_
          | refine T_iload_n (pc1 := 2) (pc := 1) k_M_wanted_1 rfl rfl ?_
          | (refine T_cS (As := [_, _]) (d1 := 3) (pc1 := 5) (pc := 2) k_M_wanted_2 rfl (by decide) (Nat.le_of_ble_eq_true rfl) rfl o_M_areSpots l_M_107 rfl (c_M_areSpots (fun hw => ?_) (fun hw => ?_)) <;> try dsimp only [psh])
          | (with_reducible refine T_if_neN (tgt := 11) (pc1 := 8) (pc := 5) k_M_wanted_5 (by decide) (by decide) (by omega) (fun hc => ?_) (fun hc => ?_) <;> first | (exfalso; omega) | skip)
          | refine T_if_ne_t (tgt := 11) (pc := 5) k_M_wanted_5 rfl (by decide) ?_
          | refine T_if_ne_f (tgt := 11) (pc1 := 8) (pc := 5) k_M_wanted_5 rfl rfl (by decide) ?_
          | refine T_if_ne (tgt := 11) (pc1 := 8) (pc := 5) k_M_wanted_5 rfl rfl (fun hc => ?_) (fun hc => ?_)
          | refine T_ldc (v := (-1000000001)) (pc1 := 10) (pc := 8) k_M_wanted_8 rfl c_M_111 ?_
          | refine T_retI (pc := 10) k_M_wanted_10 rfl (by first | rfl | decide | assumption) ?_
          | refine T_iconst (v := (-1)) (pc1 := 12) (pc := 11) k_M_wanted_11 rfl (by decide) ?_
          | refine T_istore_n (pc1 := 13) (pc := 12) k_M_wanted_12 rfl (Nat.le_of_ble_eq_true rfl) ?_
          | refine T_iconst (v := (nI 0)) (pc1 := 14) (pc := 13) k_M_wanted_13 rfl (by decide) ?_
          | refine T_istore (pc1 := 16) (pc := 14) k_M_wanted_14 rfl (Nat.le_of_ble_eq_true rfl) ?_
          | refine T_iconst (v := (nI 0)) (pc1 := 17) (pc := 16) k_M_wanted_16 rfl (by decide) ?_
          | refine T_istore (pc1 := 19) (pc := 17) k_M_wanted_17 rfl (Nat.le_of_ble_eq_true rfl) ?_
          | refine T_aload_n (pc1 := 22) (pc := 21) k_M_wanted_21 rfl rfl ?_
          | refine T_aload_nN (pc1 := 22) (pc := 21) k_M_wanted_21 rfl rfl ?_
          | refine T_getR (pc1 := 25) (pc := 22) k_M_wanted_22 rfl f_M_9 rfl (by first | exact ga G (by decide) rfl | assumption) (by first | exact gr G (by decide) rfl | assumption) ?_
          | refine T_iconst (v := (nI 5)) (pc1 := 26) (pc := 25) k_M_wanted_25 rfl (by decide) ?_
          | refine T_ialdN (pc1 := 27) (pc := 26) k_M_wanted_26 rfl (by first | exact ga G (by decide) rfl | assumption) (by omega) (by omega) (by first | assumption | (simp (disch := omega) only [pI_eq, pI_row, pI_col, va_up_self, va_up_ne, ne_eq, not_false_eq_true, hJN, hn] <;> rfl) | rfl) ?_
          | refine T_iald (pc1 := 27) (pc := 26) k_M_wanted_26 rfl (by first | exact ga G (by decide) rfl | assumption) (by assumption) ?_
          | (with_reducible refine T_icmp_geN (tgt := 81) (pc1 := 30) (pc := 27) k_M_wanted_27 (by decide) (by decide) (by omega) (by omega) (fun hc => ?_) (fun hc => ?_) <;> first | (exfalso; omega) | skip)
          | refine T_icmp_ge_t (tgt := 81) (pc := 27) k_M_wanted_27 rfl (by decide) ?_
          | refine T_icmp_ge_f (tgt := 81) (pc1 := 30) (pc := 27) k_M_wanted_27 rfl rfl (by decide) ?_
          | refine T_icmp_ge (tgt := 81) (pc1 := 30) (pc := 27) k_M_wanted_27 rfl rfl (fun hc => ?_) (fun hc => ?_)
          | refine T_aload_n (pc1 := 31) (pc := 30) k_M_wanted_30 rfl rfl ?_
          | refine T_aload_nN (pc1 := 31) (pc := 30) k_M_wanted_30 rfl rfl ?_
          | refine T_iload_n (pc1 := 32) (pc := 31) k_M_wanted_31 rfl rfl ?_
          | refine T_iload_n (pc1 := 33) (pc := 32) k_M_wanted_32 rfl rfl ?_
          | refine T_iload (pc1 := 35) (pc := 33) k_M_wanted_33 rfl rfl ?_
          | (refine T_cV (As := [_, _, _]) (d1 := 5) (pc1 := 38) (pc := 35) k_M_wanted_35 rfl (by decide) (Nat.le_of_ble_eq_true rfl) rfl o_M_bestOf l_M_180 rfl (by first | exact ga G (by decide) rfl | assumption) rfl (c_M_bestOf G hJN ok hf ht (fun J2 hJ2 hD => ?_)) <;> try dsimp only [psh])
          | refine T_istore (pc1 := 40) (pc := 38) k_M_wanted_38 rfl (Nat.le_of_ble_eq_true rfl) ?_
          | refine T_iload (pc1 := 42) (pc := 40) k_M_wanted_40 rfl rfl ?_
          | refine T_ldc (v := (nI 1000000)) (pc1 := 44) (pc := 42) k_M_wanted_42 rfl c_M_163 ?_
          | (with_reducible refine T_icmp_ltN (tgt := 53) (pc1 := 47) (pc := 44) k_M_wanted_44 (by decide) (by decide) (by omega) (by omega) (fun hc => ?_) (fun hc => ?_) <;> first | (exfalso; omega) | skip)
          | refine T_icmp_lt_t (tgt := 53) (pc := 44) k_M_wanted_44 rfl (by decide) ?_
          | refine T_icmp_lt_f (tgt := 53) (pc1 := 47) (pc := 44) k_M_wanted_44 rfl rfl (by decide) ?_
          | refine T_icmp_lt (tgt := 53) (pc1 := 47) (pc := 44) k_M_wanted_44 rfl rfl (fun hc => ?_) (fun hc => ?_)
          | refine T_sipush (v := (nI 999)) (pc1 := 50) (pc := 47) k_M_wanted_47 rfl (by decide) ?_
          | refine T_goto (tgt := 55) (pc := 50) k_M_wanted_50 rfl ?_
          | refine T_iload (pc1 := 55) (pc := 53) k_M_wanted_53 rfl rfl ?_
          | refine T_iload_n (pc1 := 58) (pc := 57) k_M_wanted_57 rfl rfl ?_
          | (with_reducible refine T_if_ltN (tgt := 68) (pc1 := 61) (pc := 58) k_M_wanted_58 (by decide) (by decide) (by omega) ?_ <;> first | (exfalso; omega) | skip)
          | refine T_if_lt_t (tgt := 68) (pc := 58) k_M_wanted_58 rfl (by decide) ?_
          | refine T_if_lt_f (tgt := 68) (pc1 := 61) (pc := 58) k_M_wanted_58 rfl rfl (by decide) ?_
          | refine T_if_lt (tgt := 68) (pc1 := 61) (pc := 58) k_M_wanted_58 rfl rfl (fun hc => ?_) (fun hc => ?_)
          | refine T_iload (pc1 := 63) (pc := 61) k_M_wanted_61 rfl rfl ?_
          | refine T_iload (pc1 := 65) (pc := 63) k_M_wanted_63 rfl rfl ?_
          | (with_reducible refine T_icmp_leN (tgt := 75) (pc1 := 68) (pc := 65) k_M_wanted_65 (by decide) (by decide) (by omega) (by omega) (fun hc => ?_) (fun hc => ?_) <;> first | (exfalso; omega) | skip)
          | refine T_icmp_le_t (tgt := 75) (pc := 65) k_M_wanted_65 rfl (by decide) ?_
          | refine T_icmp_le_f (tgt := 75) (pc1 := 68) (pc := 65) k_M_wanted_65 rfl rfl (by decide) ?_
          | refine T_icmp_le (tgt := 75) (pc1 := 68) (pc := 65) k_M_wanted_65 rfl rfl (fun hc => ?_) (fun hc => ?_)
          | refine T_iload (pc1 := 70) (pc := 68) k_M_wanted_68 rfl rfl ?_
          | refine T_istore (pc1 := 72) (pc := 70) k_M_wanted_70 rfl (Nat.le_of_ble_eq_true rfl) ?_
          | refine T_iload (pc1 := 74) (pc := 72) k_M_wanted_72 rfl rfl ?_
          | refine T_istore_n (pc1 := 75) (pc := 74) k_M_wanted_74 rfl (Nat.le_of_ble_eq_true rfl) ?_
          | refine T_iincN (b := 1) (pc1 := 78) (pc := 75) k_M_wanted_75 rfl rfl (by decide) ?_
          | refine T_iinc (v := (nI 1)) (pc1 := 78) (pc := 75) k_M_wanted_75 rfl rfl (by decide) ?_
          | refine T_goto (tgt := 19) (pc := 78) k_M_wanted_78 rfl ?_
          | refine T_iload_n (pc1 := 82) (pc := 81) k_M_wanted_81 rfl rfl ?_
          | (with_reducible refine T_if_geN (tgt := 90) (pc1 := 85) (pc := 82) k_M_wanted_82 (by decide) (by decide) (by omega) ?_ <;> first | (exfalso; omega) | skip)
          | refine T_if_ge_t (tgt := 90) (pc := 82) k_M_wanted_82 rfl (by decide) ?_
          | refine T_if_ge_f (tgt := 90) (pc1 := 85) (pc := 82) k_M_wanted_82 rfl rfl (by decide) ?_
          | refine T_if_ge (tgt := 90) (pc1 := 85) (pc := 82) k_M_wanted_82 rfl rfl (fun hc => ?_) (fun hc => ?_)
          | refine T_ldc (v := (-1000000005)) (pc1 := 87) (pc := 85) k_M_wanted_85 rfl c_M_103 ?_
          | refine T_goto (tgt := 91) (pc := 87) k_M_wanted_87 rfl ?_
          | refine T_iload_n (pc1 := 91) (pc := 90) k_M_wanted_90 rfl rfl ?_
          | refine T_retI (pc := 91) k_M_wanted_91 rfl (by first | rfl | decide | assumption) ?_)
        · have e := nx J2 (some (.int (nI (bst N n tn (nI b) fr to0)))) hJ2
          rw [wtM, if_neg (by omega)] at e
          exact e
        · have e := nx J2 (some (.int (nI (bst N n tn (nI b) fr to0)))) hJ2
          rw [wtM, if_pos (by omega)] at e
          exact e
    repeat' (first
      | refine T_iload_n (pc1 := 1) (pc := 0) k_M_wanted_0 rfl rfl ?_
      | refine T_iload_n (pc1 := 2) (pc := 1) k_M_wanted_1 rfl rfl ?_
      | (refine T_cS (As := [_, _]) (d1 := 3) (pc1 := 5) (pc := 2) k_M_wanted_2 rfl (by decide) (Nat.le_of_ble_eq_true rfl) rfl o_M_areSpots l_M_107 rfl (c_M_areSpots (fun hw => ?_) (fun hw => ?_)) <;> try dsimp only [psh])
      | (with_reducible refine T_if_neN (tgt := 11) (pc1 := 8) (pc := 5) k_M_wanted_5 (by decide) (by decide) (by omega) (fun hc => ?_) (fun hc => ?_) <;> first | (exfalso; omega) | skip)
      | refine T_if_ne_t (tgt := 11) (pc := 5) k_M_wanted_5 rfl (by decide) ?_
      | refine T_if_ne_f (tgt := 11) (pc1 := 8) (pc := 5) k_M_wanted_5 rfl rfl (by decide) ?_
      | refine T_if_ne (tgt := 11) (pc1 := 8) (pc := 5) k_M_wanted_5 rfl rfl (fun hc => ?_) (fun hc => ?_)
      | refine T_ldc (v := (-1000000001)) (pc1 := 10) (pc := 8) k_M_wanted_8 rfl c_M_111 ?_
      | refine T_retI (pc := 10) k_M_wanted_10 rfl (by first | rfl | decide | assumption) ?_
      | refine T_iconst (v := (-1)) (pc1 := 12) (pc := 11) k_M_wanted_11 rfl (by decide) ?_
      | refine T_istore_n (pc1 := 13) (pc := 12) k_M_wanted_12 rfl (Nat.le_of_ble_eq_true rfl) ?_
      | refine T_iconst (v := (nI 0)) (pc1 := 14) (pc := 13) k_M_wanted_13 rfl (by decide) ?_
      | refine T_istore (pc1 := 16) (pc := 14) k_M_wanted_14 rfl (Nat.le_of_ble_eq_true rfl) ?_
      | refine T_iconst (v := (nI 0)) (pc1 := 17) (pc := 16) k_M_wanted_16 rfl (by decide) ?_
      | refine T_istore (pc1 := 19) (pc := 17) k_M_wanted_17 rfl (Nat.le_of_ble_eq_true rfl) ?_
      | refine T_aload_n (pc1 := 22) (pc := 21) k_M_wanted_21 rfl rfl ?_
      | refine T_aload_nN (pc1 := 22) (pc := 21) k_M_wanted_21 rfl rfl ?_
      | refine T_getR (pc1 := 25) (pc := 22) k_M_wanted_22 rfl f_M_9 rfl (by first | exact ga G (by decide) rfl | assumption) (by first | exact gr G (by decide) rfl | assumption) ?_
      | refine T_iconst (v := (nI 5)) (pc1 := 26) (pc := 25) k_M_wanted_25 rfl (by decide) ?_
      | refine T_ialdN (pc1 := 27) (pc := 26) k_M_wanted_26 rfl (by first | exact ga G (by decide) rfl | assumption) (by omega) (by omega) (by first | assumption | (simp (disch := omega) only [pI_eq, pI_row, pI_col, va_up_self, va_up_ne, ne_eq, not_false_eq_true, hJN, hn] <;> rfl) | rfl) ?_
      | refine T_iald (pc1 := 27) (pc := 26) k_M_wanted_26 rfl (by first | exact ga G (by decide) rfl | assumption) (by assumption) ?_
      | (with_reducible refine T_icmp_geN (tgt := 81) (pc1 := 30) (pc := 27) k_M_wanted_27 (by decide) (by decide) (by omega) (by omega) (fun hc => ?_) (fun hc => ?_) <;> first | (exfalso; omega) | skip)
      | refine T_icmp_ge_t (tgt := 81) (pc := 27) k_M_wanted_27 rfl (by decide) ?_
      | refine T_icmp_ge_f (tgt := 81) (pc1 := 30) (pc := 27) k_M_wanted_27 rfl rfl (by decide) ?_
      | refine T_icmp_ge (tgt := 81) (pc1 := 30) (pc := 27) k_M_wanted_27 rfl rfl (fun hc => ?_) (fun hc => ?_)
      | refine T_aload_n (pc1 := 31) (pc := 30) k_M_wanted_30 rfl rfl ?_
      | refine T_aload_nN (pc1 := 31) (pc := 30) k_M_wanted_30 rfl rfl ?_
      | refine T_iload_n (pc1 := 32) (pc := 31) k_M_wanted_31 rfl rfl ?_
      | refine T_iload_n (pc1 := 33) (pc := 32) k_M_wanted_32 rfl rfl ?_
      | refine T_iload (pc1 := 35) (pc := 33) k_M_wanted_33 rfl rfl ?_
      | (refine T_cV (As := [_, _, _]) (d1 := 5) (pc1 := 38) (pc := 35) k_M_wanted_35 rfl (by decide) (Nat.le_of_ble_eq_true rfl) rfl o_M_bestOf l_M_180 rfl (by first | exact ga G (by decide) rfl | assumption) rfl (c_M_bestOf G hJN ok hf ht (fun J2 hJ2 hD => ?_)) <;> try dsimp only [psh])
      | refine T_istore (pc1 := 40) (pc := 38) k_M_wanted_38 rfl (Nat.le_of_ble_eq_true rfl) ?_
      | refine T_iload (pc1 := 42) (pc := 40) k_M_wanted_40 rfl rfl ?_
      | refine T_ldc (v := (nI 1000000)) (pc1 := 44) (pc := 42) k_M_wanted_42 rfl c_M_163 ?_
      | (with_reducible refine T_icmp_ltN (tgt := 53) (pc1 := 47) (pc := 44) k_M_wanted_44 (by decide) (by decide) (by omega) (by omega) (fun hc => ?_) (fun hc => ?_) <;> first | (exfalso; omega) | skip)
      | refine T_icmp_lt_t (tgt := 53) (pc := 44) k_M_wanted_44 rfl (by decide) ?_
      | refine T_icmp_lt_f (tgt := 53) (pc1 := 47) (pc := 44) k_M_wanted_44 rfl rfl (by decide) ?_
      | refine T_icmp_lt (tgt := 53) (pc1 := 47) (pc := 44) k_M_wanted_44 rfl rfl (fun hc => ?_) (fun hc => ?_)
      | refine T_sipush (v := (nI 999)) (pc1 := 50) (pc := 47) k_M_wanted_47 rfl (by decide) ?_
      | refine T_goto (tgt := 55) (pc := 50) k_M_wanted_50 rfl ?_
      | refine T_iload (pc1 := 55) (pc := 53) k_M_wanted_53 rfl rfl ?_
      | refine T_istore (pc1 := 57) (pc := 55) k_M_wanted_55 rfl (Nat.le_of_ble_eq_true rfl) ?_
      | refine T_iload_n (pc1 := 58) (pc := 57) k_M_wanted_57 rfl rfl ?_
      | (with_reducible refine T_if_ltN (tgt := 68) (pc1 := 61) (pc := 58) k_M_wanted_58 (by decide) (by decide) (by omega) ?_ <;> first | (exfalso; omega) | skip)
      | refine T_if_lt_t (tgt := 68) (pc := 58) k_M_wanted_58 rfl (by decide) ?_
      | refine T_if_lt_f (tgt := 68) (pc1 := 61) (pc := 58) k_M_wanted_58 rfl rfl (by decide) ?_
      | refine T_if_lt (tgt := 68) (pc1 := 61) (pc := 58) k_M_wanted_58 rfl rfl (fun hc => ?_) (fun hc => ?_)
      | refine T_iload (pc1 := 63) (pc := 61) k_M_wanted_61 rfl rfl ?_
      | refine T_iload (pc1 := 65) (pc := 63) k_M_wanted_63 rfl rfl ?_
      | (with_reducible refine T_icmp_leN (tgt := 75) (pc1 := 68) (pc := 65) k_M_wanted_65 (by decide) (by decide) (by omega) (by omega) (fun hc => ?_) (fun hc => ?_) <;> first | (exfalso; omega) | skip)
      | refine T_icmp_le_t (tgt := 75) (pc := 65) k_M_wanted_65 rfl (by decide) ?_
      | refine T_icmp_le_f (tgt := 75) (pc1 := 68) (pc := 65) k_M_wanted_65 rfl rfl (by decide) ?_
      | refine T_icmp_le (tgt := 75) (pc1 := 68) (pc := 65) k_M_wanted_65 rfl rfl (fun hc => ?_) (fun hc => ?_)
      | refine T_iload (pc1 := 70) (pc := 68) k_M_wanted_68 rfl rfl ?_
      | refine T_istore (pc1 := 72) (pc := 70) k_M_wanted_70 rfl (Nat.le_of_ble_eq_true rfl) ?_
      | refine T_iload (pc1 := 74) (pc := 72) k_M_wanted_72 rfl rfl ?_
      | refine T_istore_n (pc1 := 75) (pc := 74) k_M_wanted_74 rfl (Nat.le_of_ble_eq_true rfl) ?_
      | refine T_iincN (b := 1) (pc1 := 78) (pc := 75) k_M_wanted_75 rfl rfl (by decide) ?_
      | refine T_iinc (v := (nI 1)) (pc1 := 78) (pc := 75) k_M_wanted_75 rfl rfl (by decide) ?_
      | refine T_goto (tgt := 19) (pc := 78) k_M_wanted_78 rfl ?_
      | refine T_iload_n (pc1 := 82) (pc := 81) k_M_wanted_81 rfl rfl ?_
      | (with_reducible refine T_if_geN (tgt := 90) (pc1 := 85) (pc := 82) k_M_wanted_82 (by decide) (by decide) (by omega) ?_ <;> first | (exfalso; omega) | skip)
      | refine T_if_ge_t (tgt := 90) (pc := 82) k_M_wanted_82 rfl (by decide) ?_
      | refine T_if_ge_f (tgt := 90) (pc1 := 85) (pc := 82) k_M_wanted_82 rfl rfl (by decide) ?_
      | refine T_if_ge (tgt := 90) (pc1 := 85) (pc := 82) k_M_wanted_82 rfl rfl (fun hc => ?_) (fun hc => ?_)
      | refine T_ldc (v := (-1000000005)) (pc1 := 87) (pc := 85) k_M_wanted_85 rfl c_M_103 ?_
      | refine T_goto (tgt := 91) (pc := 87) k_M_wanted_87 rfl ?_
      | refine T_iload_n (pc1 := 91) (pc := 90) k_M_wanted_90 rfl rfl ?_
      | refine T_retI (pc := 91) k_M_wanted_91 rfl (by first | rfl | decide | assumption) ?_)
    all_goals first | exact loop n 0 _ _ _ I (by omega) eqx_rf rfl | (exfalso; exact hw hok)
  · rw [wantedA, if_neg hok] at kk
    repeat' (first
      | refine T_iload_n (pc1 := 1) (pc := 0) k_M_wanted_0 rfl rfl ?_
      | refine T_iload_n (pc1 := 2) (pc := 1) k_M_wanted_1 rfl rfl ?_
      | (refine T_cS (As := [_, _]) (d1 := 3) (pc1 := 5) (pc := 2) k_M_wanted_2 rfl (by decide) (Nat.le_of_ble_eq_true rfl) rfl o_M_areSpots l_M_107 rfl (c_M_areSpots (fun hw => ?_) (fun hw => ?_)) <;> try dsimp only [psh])
      | (with_reducible refine T_if_neN (tgt := 11) (pc1 := 8) (pc := 5) k_M_wanted_5 (by decide) (by decide) (by omega) (fun hc => ?_) (fun hc => ?_) <;> first | (exfalso; omega) | skip)
      | refine T_if_ne_t (tgt := 11) (pc := 5) k_M_wanted_5 rfl (by decide) ?_
      | refine T_if_ne_f (tgt := 11) (pc1 := 8) (pc := 5) k_M_wanted_5 rfl rfl (by decide) ?_
      | refine T_if_ne (tgt := 11) (pc1 := 8) (pc := 5) k_M_wanted_5 rfl rfl (fun hc => ?_) (fun hc => ?_)
      | refine T_ldc (v := (-1000000001)) (pc1 := 10) (pc := 8) k_M_wanted_8 rfl c_M_111 ?_
      | refine T_retI (pc := 10) k_M_wanted_10 rfl (by first | rfl | decide | assumption) ?_)
    all_goals first | exact kk _ _ eqx_rf rfl | (exfalso; exact hok (by assumption))
set_option maxHeartbeats 4000000 in
theorem c_M_reach {N : Row} {n tn : Nat} {f m : Int32} (G : GeoOK g) (hN : I 102 = N) (ok : okL N n tn) (kk : ∀ J r, eqx [105, 106, 112, 113] I J → r = reachA N n tn f m → K (some (.int r)) g J) : Cl 6 M_M_reach [.ref 101, .int f, .int m] g I K := by
  show Rl 6 M_M_reach 0 [some (.ref 101), some (.int f), some (.int m), none, none, none] [] g I K
  obtain ⟨hn, h14, -⟩ := id ok
  have e0 : (nI 0).toInt = 0 := rfl
  have e999 : (nI 999).toInt = 999 := rfl
  by_cases hok : rg 8 f ∧ bt 0 999 m
  · rw [reachA, if_pos hok] at kk
    obtain ⟨fr, hf, rfl⟩ := rg_of hok.1 (by omega)
    obtain ⟨x, -, hx, rfl⟩ := bt_of (lo := 0) (hi := 999) hok.2 (by omega)
    have ex := nI_toInt (n := x) (by omega)
    rw [nI_clamp (by omega), nI_clamp (by omega)] at kk
    have e00 : bst N n tn (-1) fr fr = 0 := dst_0 (okL_E ok)
    have loop : ∀ q s (J : IM), s + q = 8 → eqx [105, 106, 112, 113] I J → (∀ v, v < 8 → J 106 v = nI (dst (ed N) (bcs N tn (-1)) n fr v)) → Rl 6 M_M_reach 35 [some (.ref 101), some (.int (nI fr)), some (.int (nI x)), some (.int (nI 0)), some (.int (nI (msk (fun s => decide (dst (ed N) (bcs N tn (-1)) n fr s ≤ x)) s))), some (.int (nI s))] [] g J K := by
      intro q
      induction q with
      | zero =>
        intro s J hs hJ hD
        have hs : s = 8 := by omega
        subst hs
        repeat' (first
          | refine T_iload_n (pc1 := 1) (pc := 0) k_M_reach_0 rfl rfl ?_
          | (refine T_cS (As := [_]) (d1 := 2) (pc1 := 4) (pc := 1) k_M_reach_1 rfl (by decide) (Nat.le_of_ble_eq_true rfl) rfl o_M_isSpot l_M_99 rfl (c_M_isSpot (fun hw => ?_) (fun hw => ?_)) <;> try dsimp only [psh])
          | (with_reducible refine T_if_eqN (tgt := 18) (pc1 := 7) (pc := 4) k_M_reach_4 (by decide) (by decide) (by omega) (fun hc => ?_) (fun hc => ?_) <;> first | (exfalso; omega) | skip)
          | refine T_if_eq_t (tgt := 18) (pc := 4) k_M_reach_4 rfl (by decide) ?_
          | refine T_if_eq_f (tgt := 18) (pc1 := 7) (pc := 4) k_M_reach_4 rfl rfl (by decide) ?_
          | refine T_if_eq (tgt := 18) (pc1 := 7) (pc := 4) k_M_reach_4 rfl rfl (fun hc => ?_) (fun hc => ?_)
          | refine T_iload_n (pc1 := 8) (pc := 7) k_M_reach_7 rfl rfl ?_
          | refine T_iconst (v := (nI 0)) (pc1 := 9) (pc := 8) k_M_reach_8 rfl (by decide) ?_
          | refine T_sipush (v := (nI 999)) (pc1 := 12) (pc := 9) k_M_reach_9 rfl (by decide) ?_
          | (refine T_cS (As := [_, _, _]) (d1 := 1) (pc1 := 15) (pc := 12) k_M_reach_12 rfl (by decide) (Nat.le_of_ble_eq_true rfl) rfl o_M_within l_M_95 rfl (c_M_within (fun hw => ?_) (fun hw => ?_)) <;> try dsimp only [psh])
          | (with_reducible refine T_if_neN (tgt := 21) (pc1 := 18) (pc := 15) k_M_reach_15 (by decide) (by decide) (by omega) (fun hc => ?_) (fun hc => ?_) <;> first | (exfalso; omega) | skip)
          | refine T_if_ne_t (tgt := 21) (pc := 15) k_M_reach_15 rfl (by decide) ?_
          | refine T_if_ne_f (tgt := 21) (pc1 := 18) (pc := 15) k_M_reach_15 rfl rfl (by decide) ?_
          | refine T_if_ne (tgt := 21) (pc1 := 18) (pc := 15) k_M_reach_15 rfl rfl (fun hc => ?_) (fun hc => ?_)
          | refine T_ldc (v := (-1000000001)) (pc1 := 20) (pc := 18) k_M_reach_18 rfl c_M_111 ?_
          | refine T_retI (pc := 20) k_M_reach_20 rfl (by first | rfl | decide | assumption) ?_
          | refine T_aload_n (pc1 := 22) (pc := 21) k_M_reach_21 rfl rfl ?_
          | refine T_aload_nN (pc1 := 22) (pc := 21) k_M_reach_21 rfl rfl ?_
          | refine T_iload_n (pc1 := 23) (pc := 22) k_M_reach_22 rfl rfl ?_
          | refine T_iload_n (pc1 := 24) (pc := 23) k_M_reach_23 rfl rfl ?_
          | refine T_iconst (v := (-1)) (pc1 := 25) (pc := 24) k_M_reach_24 rfl (by decide) ?_
          | (refine T_cV (As := [_, _, _]) (d1 := 5) (pc1 := 28) (pc := 25) k_M_reach_25 rfl (by decide) (Nat.le_of_ble_eq_true rfl) rfl o_M_bestOf l_M_180 rfl (by first | exact ga G (by decide) rfl | assumption) rfl (c_M_bestOf G hN ok ha hb (fun J hJ hD => ?_)) <;> try dsimp only [psh])
          | refine T_istore_n (pc1 := 29) (pc := 28) k_M_reach_28 rfl (Nat.le_of_ble_eq_true rfl) ?_
          | refine T_iconst (v := (nI 0)) (pc1 := 30) (pc := 29) k_M_reach_29 rfl (by decide) ?_
          | refine T_istore (pc1 := 32) (pc := 30) k_M_reach_30 rfl (Nat.le_of_ble_eq_true rfl) ?_
          | refine T_iconst (v := (nI 0)) (pc1 := 33) (pc := 32) k_M_reach_32 rfl (by decide) ?_
          | refine T_istore (pc1 := 35) (pc := 33) k_M_reach_33 rfl (Nat.le_of_ble_eq_true rfl) ?_
          | refine T_iload (pc1 := 37) (pc := 35) k_M_reach_35 rfl rfl ?_
          | refine T_bipush (v := (nI 8)) (pc1 := 39) (pc := 37) k_M_reach_37 rfl (by decide) ?_
          | (with_reducible refine T_icmp_geN (tgt := 74) (pc1 := 42) (pc := 39) k_M_reach_39 (by decide) (by decide) (by omega) (by omega) (fun hc => ?_) (fun hc => ?_) <;> first | (exfalso; omega) | skip)
          | refine T_icmp_ge_t (tgt := 74) (pc := 39) k_M_reach_39 rfl (by decide) ?_
          | refine T_icmp_ge_f (tgt := 74) (pc1 := 42) (pc := 39) k_M_reach_39 rfl rfl (by decide) ?_
          | refine T_icmp_ge (tgt := 74) (pc1 := 42) (pc := 39) k_M_reach_39 rfl rfl (fun hc => ?_) (fun hc => ?_)
          | refine T_iload (pc1 := 44) (pc := 42) k_M_reach_42 rfl rfl ?_
          | refine T_aload_n (pc1 := 45) (pc := 44) k_M_reach_44 rfl rfl ?_
          | refine T_aload_nN (pc1 := 45) (pc := 44) k_M_reach_44 rfl rfl ?_
          | refine T_getR (pc1 := 48) (pc := 45) k_M_reach_45 rfl f_M_22 rfl (by first | exact ga G (by decide) rfl | assumption) (by first | exact gr G (by decide) rfl | assumption) ?_
          | refine T_iload (pc1 := 50) (pc := 48) k_M_reach_48 rfl rfl ?_
          | refine T_ialdN (pc1 := 51) (pc := 50) k_M_reach_50 rfl (by first | exact ga G (by decide) rfl | assumption) (by omega) (by omega) (by first | assumption | (simp (disch := omega) only [pI_eq, pI_row, pI_col, va_up_self, va_up_ne, ne_eq, not_false_eq_true, hJN, hn] <;> rfl) | rfl) ?_
          | refine T_iald (pc1 := 51) (pc := 50) k_M_reach_50 rfl (by first | exact ga G (by decide) rfl | assumption) (by assumption) ?_
          | refine T_iload_n (pc1 := 52) (pc := 51) k_M_reach_51 rfl rfl ?_
          | refine T_iload_n (pc1 := 53) (pc := 52) k_M_reach_52 rfl rfl ?_
          | with_reducible refine T_iaddN (pc1 := 54) (pc := 53) k_M_reach_53 (by decide) ?_
          | refine T_iadd (pc1 := 54) (pc := 53) k_M_reach_53 rfl ?_
          | (with_reducible refine T_icmp_gtN (tgt := 64) (pc1 := 57) (pc := 54) k_M_reach_54 (by decide) (by decide) (by omega) (by omega) (fun hc => ?_) (fun hc => ?_) <;> first | (exfalso; omega) | skip)
          | refine T_icmp_gt_t (tgt := 64) (pc := 54) k_M_reach_54 rfl (by decide) ?_
          | refine T_icmp_gt_f (tgt := 64) (pc1 := 57) (pc := 54) k_M_reach_54 rfl rfl (by decide) ?_
          | refine T_icmp_gt (tgt := 64) (pc1 := 57) (pc := 54) k_M_reach_54 rfl rfl (fun hc => ?_) (fun hc => ?_)
          | refine T_iconst (v := (nI 1)) (pc1 := 58) (pc := 57) k_M_reach_57 rfl (by decide) ?_
          | refine T_iload (pc1 := 60) (pc := 58) k_M_reach_58 rfl rfl ?_
          | refine T_ishl (pc1 := 61) (pc := 60) k_M_reach_60 rfl ?_
          | refine T_goto (tgt := 65) (pc := 61) k_M_reach_61 rfl ?_
          | refine T_iconst (v := (nI 0)) (pc1 := 65) (pc := 64) k_M_reach_64 rfl (by decide) ?_
          | refine T_ior (pc1 := 66) (pc := 65) k_M_reach_65 rfl ?_
          | refine T_istore (pc1 := 68) (pc := 66) k_M_reach_66 rfl (Nat.le_of_ble_eq_true rfl) ?_
          | refine T_iincN (b := 1) (pc1 := 71) (pc := 68) k_M_reach_68 rfl rfl (by decide) ?_
          | refine T_iinc (v := (nI 1)) (pc1 := 71) (pc := 68) k_M_reach_68 rfl rfl (by decide) ?_
          | refine T_goto (tgt := 35) (pc := 71) k_M_reach_71 rfl ?_
          | refine T_iload (pc1 := 76) (pc := 74) k_M_reach_74 rfl rfl ?_
          | refine T_retI (pc := 76) k_M_reach_76 rfl (by first | rfl | decide | assumption) ?_)
        exact kk J _ hJ rfl
      | succ q ih =>
        intro s J hs hJ hD
        have eD := hD s (by omega)
        have hle := dst_le (c := bcs N tn (-1)) (goal := fr) (okL_E ok) s
        have ih := ih (s + 1) J (by omega) hJ hD
        have hm := msk_lt (p := fun s => decide (dst (ed N) (bcs N tn (-1)) n fr s ≤ x)) s (by omega)
        rw [msk] at ih
        generalize msk (fun s => decide (dst (ed N) (bcs N tn (-1)) n fr s ≤ x)) s = F at *
        have hp : 2 ^ s < 2 ^ 14 := Nat.pow_lt_pow_right (by decide) (by omega)
        refine T_iload (pc1 := 37) (pc := 35) k_M_reach_35 rfl rfl ?_
        repeat' (first
          | refine T_iload_n (pc1 := 1) (pc := 0) k_M_reach_0 rfl rfl ?_
          | (refine T_cS (As := [_]) (d1 := 2) (pc1 := 4) (pc := 1) k_M_reach_1 rfl (by decide) (Nat.le_of_ble_eq_true rfl) rfl o_M_isSpot l_M_99 rfl (c_M_isSpot (fun hw => ?_) (fun hw => ?_)) <;> try dsimp only [psh])
          | (with_reducible refine T_if_eqN (tgt := 18) (pc1 := 7) (pc := 4) k_M_reach_4 (by decide) (by decide) (by omega) (fun hc => ?_) (fun hc => ?_) <;> first | (exfalso; omega) | skip)
          | refine T_if_eq_t (tgt := 18) (pc := 4) k_M_reach_4 rfl (by decide) ?_
          | refine T_if_eq_f (tgt := 18) (pc1 := 7) (pc := 4) k_M_reach_4 rfl rfl (by decide) ?_
          | refine T_if_eq (tgt := 18) (pc1 := 7) (pc := 4) k_M_reach_4 rfl rfl (fun hc => ?_) (fun hc => ?_)
          | refine T_iload_n (pc1 := 8) (pc := 7) k_M_reach_7 rfl rfl ?_
          | refine T_iconst (v := (nI 0)) (pc1 := 9) (pc := 8) k_M_reach_8 rfl (by decide) ?_
          | refine T_sipush (v := (nI 999)) (pc1 := 12) (pc := 9) k_M_reach_9 rfl (by decide) ?_
          | (refine T_cS (As := [_, _, _]) (d1 := 1) (pc1 := 15) (pc := 12) k_M_reach_12 rfl (by decide) (Nat.le_of_ble_eq_true rfl) rfl o_M_within l_M_95 rfl (c_M_within (fun hw => ?_) (fun hw => ?_)) <;> try dsimp only [psh])
          | (with_reducible refine T_if_neN (tgt := 21) (pc1 := 18) (pc := 15) k_M_reach_15 (by decide) (by decide) (by omega) (fun hc => ?_) (fun hc => ?_) <;> first | (exfalso; omega) | skip)
          | refine T_if_ne_t (tgt := 21) (pc := 15) k_M_reach_15 rfl (by decide) ?_
          | refine T_if_ne_f (tgt := 21) (pc1 := 18) (pc := 15) k_M_reach_15 rfl rfl (by decide) ?_
          | refine T_if_ne (tgt := 21) (pc1 := 18) (pc := 15) k_M_reach_15 rfl rfl (fun hc => ?_) (fun hc => ?_)
          | refine T_ldc (v := (-1000000001)) (pc1 := 20) (pc := 18) k_M_reach_18 rfl c_M_111 ?_
          | refine T_retI (pc := 20) k_M_reach_20 rfl (by first | rfl | decide | assumption) ?_
          | refine T_aload_n (pc1 := 22) (pc := 21) k_M_reach_21 rfl rfl ?_
          | refine T_aload_nN (pc1 := 22) (pc := 21) k_M_reach_21 rfl rfl ?_
          | refine T_iload_n (pc1 := 23) (pc := 22) k_M_reach_22 rfl rfl ?_
          | refine T_iload_n (pc1 := 24) (pc := 23) k_M_reach_23 rfl rfl ?_
          | refine T_iconst (v := (-1)) (pc1 := 25) (pc := 24) k_M_reach_24 rfl (by decide) ?_
          | (refine T_cV (As := [_, _, _]) (d1 := 5) (pc1 := 28) (pc := 25) k_M_reach_25 rfl (by decide) (Nat.le_of_ble_eq_true rfl) rfl o_M_bestOf l_M_180 rfl (by first | exact ga G (by decide) rfl | assumption) rfl (c_M_bestOf G hN ok ha hb (fun J hJ hD => ?_)) <;> try dsimp only [psh])
          | refine T_istore_n (pc1 := 29) (pc := 28) k_M_reach_28 rfl (Nat.le_of_ble_eq_true rfl) ?_
          | refine T_iconst (v := (nI 0)) (pc1 := 30) (pc := 29) k_M_reach_29 rfl (by decide) ?_
          | refine T_istore (pc1 := 32) (pc := 30) k_M_reach_30 rfl (Nat.le_of_ble_eq_true rfl) ?_
          | refine T_iconst (v := (nI 0)) (pc1 := 33) (pc := 32) k_M_reach_32 rfl (by decide) ?_
          | refine T_istore (pc1 := 35) (pc := 33) k_M_reach_33 rfl (Nat.le_of_ble_eq_true rfl) ?_
          | refine T_bipush (v := (nI 8)) (pc1 := 39) (pc := 37) k_M_reach_37 rfl (by decide) ?_
          | (with_reducible refine T_icmp_geN (tgt := 74) (pc1 := 42) (pc := 39) k_M_reach_39 (by decide) (by decide) (by omega) (by omega) (fun hc => ?_) (fun hc => ?_) <;> first | (exfalso; omega) | skip)
          | refine T_icmp_ge_t (tgt := 74) (pc := 39) k_M_reach_39 rfl (by decide) ?_
          | refine T_icmp_ge_f (tgt := 74) (pc1 := 42) (pc := 39) k_M_reach_39 rfl rfl (by decide) ?_
          | refine T_icmp_ge (tgt := 74) (pc1 := 42) (pc := 39) k_M_reach_39 rfl rfl (fun hc => ?_) (fun hc => ?_)
          | refine T_iload (pc1 := 44) (pc := 42) k_M_reach_42 rfl rfl ?_
          | refine T_aload_n (pc1 := 45) (pc := 44) k_M_reach_44 rfl rfl ?_
          | refine T_aload_nN (pc1 := 45) (pc := 44) k_M_reach_44 rfl rfl ?_
          | refine T_getR (pc1 := 48) (pc := 45) k_M_reach_45 rfl f_M_22 rfl (by first | exact ga G (by decide) rfl | assumption) (by first | exact gr G (by decide) rfl | assumption) ?_
          | refine T_iload (pc1 := 50) (pc := 48) k_M_reach_48 rfl rfl ?_
          | refine T_ialdN (pc1 := 51) (pc := 50) k_M_reach_50 rfl (by first | exact ga G (by decide) rfl | assumption) (by omega) (by omega) (by first | assumption | (simp (disch := omega) only [pI_eq, pI_row, pI_col, va_up_self, va_up_ne, ne_eq, not_false_eq_true, hJN, hn] <;> rfl) | rfl) ?_
          | refine T_iald (pc1 := 51) (pc := 50) k_M_reach_50 rfl (by first | exact ga G (by decide) rfl | assumption) (by assumption) ?_
          | refine T_iload_n (pc1 := 52) (pc := 51) k_M_reach_51 rfl rfl ?_
          | refine T_iload_n (pc1 := 53) (pc := 52) k_M_reach_52 rfl rfl ?_
          | with_reducible refine T_iaddN (pc1 := 54) (pc := 53) k_M_reach_53 (by decide) ?_
          | refine T_iadd (pc1 := 54) (pc := 53) k_M_reach_53 rfl ?_
          | (with_reducible refine T_icmp_gtN (tgt := 64) (pc1 := 57) (pc := 54) k_M_reach_54 (by decide) (by decide) (by omega) (by omega) (fun hc => ?_) (fun hc => ?_) <;> first | (exfalso; omega) | skip)
          | refine T_icmp_gt_t (tgt := 64) (pc := 54) k_M_reach_54 rfl (by decide) ?_
          | refine T_icmp_gt_f (tgt := 64) (pc1 := 57) (pc := 54) k_M_reach_54 rfl rfl (by decide) ?_
          | refine T_icmp_gt (tgt := 64) (pc1 := 57) (pc := 54) k_M_reach_54 rfl rfl (fun hc => ?_) (fun hc => ?_)
          | refine T_iconst (v := (nI 1)) (pc1 := 58) (pc := 57) k_M_reach_57 rfl (by decide) ?_
          | refine T_iload (pc1 := 60) (pc := 58) k_M_reach_58 rfl rfl ?_
          | (refine T_ishl (pc1 := 61) (pc := 60) k_M_reach_60 rfl ?_; rw [shl_nI s (by omega)])
          | refine T_goto (tgt := 65) (pc := 61) k_M_reach_61 rfl ?_
          | refine T_iconst (v := (nI 0)) (pc1 := 65) (pc := 64) k_M_reach_64 rfl (by decide) ?_
          | (refine T_ior (pc1 := 66) (pc := 65) k_M_reach_65 rfl ?_; rw [or_nI (by omega) (by omega)])
          | refine T_istore (pc1 := 68) (pc := 66) k_M_reach_66 rfl (Nat.le_of_ble_eq_true rfl) ?_
          | refine T_iincN (b := 1) (pc1 := 71) (pc := 68) k_M_reach_68 rfl rfl (by decide) ?_
          | refine T_iinc (v := (nI 1)) (pc1 := 71) (pc := 68) k_M_reach_68 rfl rfl (by decide) ?_
          | refine T_goto (tgt := 35) (pc := 71) k_M_reach_71 rfl ?_
          | refine T_iload (pc1 := 76) (pc := 74) k_M_reach_74 rfl rfl ?_
          | refine T_retI (pc := 76) k_M_reach_76 rfl (by first | rfl | decide | assumption) ?_)
        · rw [if_neg (by rw [decide_eq_true_eq]; omega)] at ih
          exact ih
        · rw [if_pos (by rw [decide_eq_true_eq]; omega)] at ih
          exact ih
    repeat' (first
      | refine T_iload_n (pc1 := 1) (pc := 0) k_M_reach_0 rfl rfl ?_
      | (refine T_cS (As := [_]) (d1 := 2) (pc1 := 4) (pc := 1) k_M_reach_1 rfl (by decide) (Nat.le_of_ble_eq_true rfl) rfl o_M_isSpot l_M_99 rfl (c_M_isSpot (fun hw => ?_) (fun hw => ?_)) <;> try dsimp only [psh])
      | (with_reducible refine T_if_eqN (tgt := 18) (pc1 := 7) (pc := 4) k_M_reach_4 (by decide) (by decide) (by omega) (fun hc => ?_) (fun hc => ?_) <;> first | (exfalso; omega) | skip)
      | refine T_if_eq_t (tgt := 18) (pc := 4) k_M_reach_4 rfl (by decide) ?_
      | refine T_if_eq_f (tgt := 18) (pc1 := 7) (pc := 4) k_M_reach_4 rfl rfl (by decide) ?_
      | refine T_if_eq (tgt := 18) (pc1 := 7) (pc := 4) k_M_reach_4 rfl rfl (fun hc => ?_) (fun hc => ?_)
      | refine T_iload_n (pc1 := 8) (pc := 7) k_M_reach_7 rfl rfl ?_
      | refine T_iconst (v := (nI 0)) (pc1 := 9) (pc := 8) k_M_reach_8 rfl (by decide) ?_
      | refine T_sipush (v := (nI 999)) (pc1 := 12) (pc := 9) k_M_reach_9 rfl (by decide) ?_
      | (refine T_cS (As := [_, _, _]) (d1 := 1) (pc1 := 15) (pc := 12) k_M_reach_12 rfl (by decide) (Nat.le_of_ble_eq_true rfl) rfl o_M_within l_M_95 rfl (c_M_within (fun hw => ?_) (fun hw => ?_)) <;> try dsimp only [psh])
      | (with_reducible refine T_if_neN (tgt := 21) (pc1 := 18) (pc := 15) k_M_reach_15 (by decide) (by decide) (by omega) (fun hc => ?_) (fun hc => ?_) <;> first | (exfalso; omega) | skip)
      | refine T_if_ne_t (tgt := 21) (pc := 15) k_M_reach_15 rfl (by decide) ?_
      | refine T_if_ne_f (tgt := 21) (pc1 := 18) (pc := 15) k_M_reach_15 rfl rfl (by decide) ?_
      | refine T_if_ne (tgt := 21) (pc1 := 18) (pc := 15) k_M_reach_15 rfl rfl (fun hc => ?_) (fun hc => ?_)
      | refine T_ldc (v := (-1000000001)) (pc1 := 20) (pc := 18) k_M_reach_18 rfl c_M_111 ?_
      | refine T_retI (pc := 20) k_M_reach_20 rfl (by first | rfl | decide | assumption) ?_
      | refine T_aload_n (pc1 := 22) (pc := 21) k_M_reach_21 rfl rfl ?_
      | refine T_aload_nN (pc1 := 22) (pc := 21) k_M_reach_21 rfl rfl ?_
      | refine T_iload_n (pc1 := 23) (pc := 22) k_M_reach_22 rfl rfl ?_
      | refine T_iload_n (pc1 := 24) (pc := 23) k_M_reach_23 rfl rfl ?_
      | refine T_iconst (v := (-1)) (pc1 := 25) (pc := 24) k_M_reach_24 rfl (by decide) ?_
      | (refine T_cV (As := [_, _, _]) (d1 := 5) (pc1 := 28) (pc := 25) k_M_reach_25 rfl (by decide) (Nat.le_of_ble_eq_true rfl) rfl o_M_bestOf l_M_180 rfl (by first | exact ga G (by decide) rfl | assumption) rfl (c_M_bestOf G hN ok hf hf (fun J hJ hD => ?_)) <;> try dsimp only [psh])
      | refine T_iconst (v := (nI 0)) (pc1 := 30) (pc := 29) k_M_reach_29 rfl (by decide) ?_
      | refine T_istore (pc1 := 32) (pc := 30) k_M_reach_30 rfl (Nat.le_of_ble_eq_true rfl) ?_
      | refine T_iconst (v := (nI 0)) (pc1 := 33) (pc := 32) k_M_reach_32 rfl (by decide) ?_
      | refine T_istore (pc1 := 35) (pc := 33) k_M_reach_33 rfl (Nat.le_of_ble_eq_true rfl) ?_
      | refine T_bipush (v := (nI 8)) (pc1 := 39) (pc := 37) k_M_reach_37 rfl (by decide) ?_
      | (with_reducible refine T_icmp_geN (tgt := 74) (pc1 := 42) (pc := 39) k_M_reach_39 (by decide) (by decide) (by omega) (by omega) (fun hc => ?_) (fun hc => ?_) <;> first | (exfalso; omega) | skip)
      | refine T_icmp_ge_t (tgt := 74) (pc := 39) k_M_reach_39 rfl (by decide) ?_
      | refine T_icmp_ge_f (tgt := 74) (pc1 := 42) (pc := 39) k_M_reach_39 rfl rfl (by decide) ?_
      | refine T_icmp_ge (tgt := 74) (pc1 := 42) (pc := 39) k_M_reach_39 rfl rfl (fun hc => ?_) (fun hc => ?_)
      | refine T_iload (pc1 := 44) (pc := 42) k_M_reach_42 rfl rfl ?_
      | refine T_aload_n (pc1 := 45) (pc := 44) k_M_reach_44 rfl rfl ?_
      | refine T_aload_nN (pc1 := 45) (pc := 44) k_M_reach_44 rfl rfl ?_
      | refine T_getR (pc1 := 48) (pc := 45) k_M_reach_45 rfl f_M_22 rfl (by first | exact ga G (by decide) rfl | assumption) (by first | exact gr G (by decide) rfl | assumption) ?_
      | refine T_iload (pc1 := 50) (pc := 48) k_M_reach_48 rfl rfl ?_
      | refine T_ialdN (pc1 := 51) (pc := 50) k_M_reach_50 rfl (by first | exact ga G (by decide) rfl | assumption) (by omega) (by omega) (by first | assumption | (simp (disch := omega) only [pI_eq, pI_row, pI_col, va_up_self, va_up_ne, ne_eq, not_false_eq_true, hJN, hn] <;> rfl) | rfl) ?_
      | refine T_iald (pc1 := 51) (pc := 50) k_M_reach_50 rfl (by first | exact ga G (by decide) rfl | assumption) (by assumption) ?_
      | refine T_iload_n (pc1 := 52) (pc := 51) k_M_reach_51 rfl rfl ?_
      | refine T_iload_n (pc1 := 53) (pc := 52) k_M_reach_52 rfl rfl ?_
      | with_reducible refine T_iaddN (pc1 := 54) (pc := 53) k_M_reach_53 (by decide) ?_
      | refine T_iadd (pc1 := 54) (pc := 53) k_M_reach_53 rfl ?_
      | (with_reducible refine T_icmp_gtN (tgt := 64) (pc1 := 57) (pc := 54) k_M_reach_54 (by decide) (by decide) (by omega) (by omega) (fun hc => ?_) (fun hc => ?_) <;> first | (exfalso; omega) | skip)
      | refine T_icmp_gt_t (tgt := 64) (pc := 54) k_M_reach_54 rfl (by decide) ?_
      | refine T_icmp_gt_f (tgt := 64) (pc1 := 57) (pc := 54) k_M_reach_54 rfl rfl (by decide) ?_
      | refine T_icmp_gt (tgt := 64) (pc1 := 57) (pc := 54) k_M_reach_54 rfl rfl (fun hc => ?_) (fun hc => ?_)
      | refine T_iconst (v := (nI 1)) (pc1 := 58) (pc := 57) k_M_reach_57 rfl (by decide) ?_
      | refine T_iload (pc1 := 60) (pc := 58) k_M_reach_58 rfl rfl ?_
      | (refine T_ishl (pc1 := 61) (pc := 60) k_M_reach_60 rfl ?_; rw [shl_nI s (by omega)])
      | refine T_goto (tgt := 65) (pc := 61) k_M_reach_61 rfl ?_
      | refine T_iconst (v := (nI 0)) (pc1 := 65) (pc := 64) k_M_reach_64 rfl (by decide) ?_
      | (refine T_ior (pc1 := 66) (pc := 65) k_M_reach_65 rfl ?_; rw [or_nI (by omega) (by omega)])
      | refine T_istore (pc1 := 68) (pc := 66) k_M_reach_66 rfl (Nat.le_of_ble_eq_true rfl) ?_
      | refine T_iincN (b := 1) (pc1 := 71) (pc := 68) k_M_reach_68 rfl rfl (by decide) ?_
      | refine T_iinc (v := (nI 1)) (pc1 := 71) (pc := 68) k_M_reach_68 rfl rfl (by decide) ?_
      | refine T_goto (tgt := 35) (pc := 71) k_M_reach_71 rfl ?_
      | refine T_iload (pc1 := 76) (pc := 74) k_M_reach_74 rfl rfl ?_
      | refine T_retI (pc := 76) k_M_reach_76 rfl (by first | rfl | decide | assumption) ?_)
    all_goals try (exfalso; exact hw hok.1)
    all_goals try (exfalso; apply hw; constructor <;> omega)
    rw [e00]
    repeat' (first
      | refine T_iload_n (pc1 := 1) (pc := 0) k_M_reach_0 rfl rfl ?_
      | (refine T_cS (As := [_]) (d1 := 2) (pc1 := 4) (pc := 1) k_M_reach_1 rfl (by decide) (Nat.le_of_ble_eq_true rfl) rfl o_M_isSpot l_M_99 rfl (c_M_isSpot (fun hw => ?_) (fun hw => ?_)) <;> try dsimp only [psh])
      | (with_reducible refine T_if_eqN (tgt := 18) (pc1 := 7) (pc := 4) k_M_reach_4 (by decide) (by decide) (by omega) (fun hc => ?_) (fun hc => ?_) <;> first | (exfalso; omega) | skip)
      | refine T_if_eq_t (tgt := 18) (pc := 4) k_M_reach_4 rfl (by decide) ?_
      | refine T_if_eq_f (tgt := 18) (pc1 := 7) (pc := 4) k_M_reach_4 rfl rfl (by decide) ?_
      | refine T_if_eq (tgt := 18) (pc1 := 7) (pc := 4) k_M_reach_4 rfl rfl (fun hc => ?_) (fun hc => ?_)
      | refine T_iload_n (pc1 := 8) (pc := 7) k_M_reach_7 rfl rfl ?_
      | refine T_iconst (v := (nI 0)) (pc1 := 9) (pc := 8) k_M_reach_8 rfl (by decide) ?_
      | refine T_sipush (v := (nI 999)) (pc1 := 12) (pc := 9) k_M_reach_9 rfl (by decide) ?_
      | (refine T_cS (As := [_, _, _]) (d1 := 1) (pc1 := 15) (pc := 12) k_M_reach_12 rfl (by decide) (Nat.le_of_ble_eq_true rfl) rfl o_M_within l_M_95 rfl (c_M_within (fun hw => ?_) (fun hw => ?_)) <;> try dsimp only [psh])
      | (with_reducible refine T_if_neN (tgt := 21) (pc1 := 18) (pc := 15) k_M_reach_15 (by decide) (by decide) (by omega) (fun hc => ?_) (fun hc => ?_) <;> first | (exfalso; omega) | skip)
      | refine T_if_ne_t (tgt := 21) (pc := 15) k_M_reach_15 rfl (by decide) ?_
      | refine T_if_ne_f (tgt := 21) (pc1 := 18) (pc := 15) k_M_reach_15 rfl rfl (by decide) ?_
      | refine T_if_ne (tgt := 21) (pc1 := 18) (pc := 15) k_M_reach_15 rfl rfl (fun hc => ?_) (fun hc => ?_)
      | refine T_ldc (v := (-1000000001)) (pc1 := 20) (pc := 18) k_M_reach_18 rfl c_M_111 ?_
      | refine T_retI (pc := 20) k_M_reach_20 rfl (by first | rfl | decide | assumption) ?_
      | refine T_aload_n (pc1 := 22) (pc := 21) k_M_reach_21 rfl rfl ?_
      | refine T_aload_nN (pc1 := 22) (pc := 21) k_M_reach_21 rfl rfl ?_
      | refine T_iload_n (pc1 := 23) (pc := 22) k_M_reach_22 rfl rfl ?_
      | refine T_iload_n (pc1 := 24) (pc := 23) k_M_reach_23 rfl rfl ?_
      | refine T_iconst (v := (-1)) (pc1 := 25) (pc := 24) k_M_reach_24 rfl (by decide) ?_
      | (refine T_cV (As := [_, _, _]) (d1 := 5) (pc1 := 28) (pc := 25) k_M_reach_25 rfl (by decide) (Nat.le_of_ble_eq_true rfl) rfl o_M_bestOf l_M_180 rfl (by first | exact ga G (by decide) rfl | assumption) rfl (c_M_bestOf G hN ok hf hf (fun J hJ hD => ?_)) <;> try dsimp only [psh])
      | refine T_istore_n (pc1 := 29) (pc := 28) k_M_reach_28 rfl (Nat.le_of_ble_eq_true rfl) ?_
      | refine T_iconst (v := (nI 0)) (pc1 := 30) (pc := 29) k_M_reach_29 rfl (by decide) ?_
      | refine T_istore (pc1 := 32) (pc := 30) k_M_reach_30 rfl (Nat.le_of_ble_eq_true rfl) ?_
      | refine T_iconst (v := (nI 0)) (pc1 := 33) (pc := 32) k_M_reach_32 rfl (by decide) ?_
      | refine T_istore (pc1 := 35) (pc := 33) k_M_reach_33 rfl (Nat.le_of_ble_eq_true rfl) ?_
      | refine T_bipush (v := (nI 8)) (pc1 := 39) (pc := 37) k_M_reach_37 rfl (by decide) ?_
      | (with_reducible refine T_icmp_geN (tgt := 74) (pc1 := 42) (pc := 39) k_M_reach_39 (by decide) (by decide) (by omega) (by omega) (fun hc => ?_) (fun hc => ?_) <;> first | (exfalso; omega) | skip)
      | refine T_icmp_ge_t (tgt := 74) (pc := 39) k_M_reach_39 rfl (by decide) ?_
      | refine T_icmp_ge_f (tgt := 74) (pc1 := 42) (pc := 39) k_M_reach_39 rfl rfl (by decide) ?_
      | refine T_icmp_ge (tgt := 74) (pc1 := 42) (pc := 39) k_M_reach_39 rfl rfl (fun hc => ?_) (fun hc => ?_)
      | refine T_iload (pc1 := 44) (pc := 42) k_M_reach_42 rfl rfl ?_
      | refine T_aload_n (pc1 := 45) (pc := 44) k_M_reach_44 rfl rfl ?_
      | refine T_aload_nN (pc1 := 45) (pc := 44) k_M_reach_44 rfl rfl ?_
      | refine T_getR (pc1 := 48) (pc := 45) k_M_reach_45 rfl f_M_22 rfl (by first | exact ga G (by decide) rfl | assumption) (by first | exact gr G (by decide) rfl | assumption) ?_
      | refine T_iload (pc1 := 50) (pc := 48) k_M_reach_48 rfl rfl ?_
      | refine T_ialdN (pc1 := 51) (pc := 50) k_M_reach_50 rfl (by first | exact ga G (by decide) rfl | assumption) (by omega) (by omega) (by first | assumption | (simp (disch := omega) only [pI_eq, pI_row, pI_col, va_up_self, va_up_ne, ne_eq, not_false_eq_true, hJN, hn] <;> rfl) | rfl) ?_
      | refine T_iald (pc1 := 51) (pc := 50) k_M_reach_50 rfl (by first | exact ga G (by decide) rfl | assumption) (by assumption) ?_
      | refine T_iload_n (pc1 := 52) (pc := 51) k_M_reach_51 rfl rfl ?_
      | refine T_iload_n (pc1 := 53) (pc := 52) k_M_reach_52 rfl rfl ?_
      | with_reducible refine T_iaddN (pc1 := 54) (pc := 53) k_M_reach_53 (by decide) ?_
      | refine T_iadd (pc1 := 54) (pc := 53) k_M_reach_53 rfl ?_
      | (with_reducible refine T_icmp_gtN (tgt := 64) (pc1 := 57) (pc := 54) k_M_reach_54 (by decide) (by decide) (by omega) (by omega) (fun hc => ?_) (fun hc => ?_) <;> first | (exfalso; omega) | skip)
      | refine T_icmp_gt_t (tgt := 64) (pc := 54) k_M_reach_54 rfl (by decide) ?_
      | refine T_icmp_gt_f (tgt := 64) (pc1 := 57) (pc := 54) k_M_reach_54 rfl rfl (by decide) ?_
      | refine T_icmp_gt (tgt := 64) (pc1 := 57) (pc := 54) k_M_reach_54 rfl rfl (fun hc => ?_) (fun hc => ?_)
      | refine T_iconst (v := (nI 1)) (pc1 := 58) (pc := 57) k_M_reach_57 rfl (by decide) ?_
      | refine T_iload (pc1 := 60) (pc := 58) k_M_reach_58 rfl rfl ?_
      | (refine T_ishl (pc1 := 61) (pc := 60) k_M_reach_60 rfl ?_; rw [shl_nI s (by omega)])
      | refine T_goto (tgt := 65) (pc := 61) k_M_reach_61 rfl ?_
      | refine T_iconst (v := (nI 0)) (pc1 := 65) (pc := 64) k_M_reach_64 rfl (by decide) ?_
      | (refine T_ior (pc1 := 66) (pc := 65) k_M_reach_65 rfl ?_; rw [or_nI (by omega) (by omega)])
      | refine T_istore (pc1 := 68) (pc := 66) k_M_reach_66 rfl (Nat.le_of_ble_eq_true rfl) ?_
      | refine T_iincN (b := 1) (pc1 := 71) (pc := 68) k_M_reach_68 rfl rfl (by decide) ?_
      | refine T_iinc (v := (nI 1)) (pc1 := 71) (pc := 68) k_M_reach_68 rfl rfl (by decide) ?_
      | refine T_goto (tgt := 35) (pc := 71) k_M_reach_71 rfl ?_
      | refine T_iload (pc1 := 76) (pc := 74) k_M_reach_74 rfl rfl ?_
      | refine T_retI (pc := 76) k_M_reach_76 rfl (by first | rfl | decide | assumption) ?_)
    exact loop 8 0 J (by omega) hJ hD
  · rw [reachA, if_neg hok] at kk
    repeat' (first
      | refine T_iload_n (pc1 := 1) (pc := 0) k_M_reach_0 rfl rfl ?_
      | (refine T_cS (As := [_]) (d1 := 2) (pc1 := 4) (pc := 1) k_M_reach_1 rfl (by decide) (Nat.le_of_ble_eq_true rfl) rfl o_M_isSpot l_M_99 rfl (c_M_isSpot (fun hw => ?_) (fun hw => ?_)) <;> try dsimp only [psh])
      | (with_reducible refine T_if_eqN (tgt := 18) (pc1 := 7) (pc := 4) k_M_reach_4 (by decide) (by decide) (by omega) (fun hc => ?_) (fun hc => ?_) <;> first | (exfalso; omega) | skip)
      | refine T_if_eq_t (tgt := 18) (pc := 4) k_M_reach_4 rfl (by decide) ?_
      | refine T_if_eq_f (tgt := 18) (pc1 := 7) (pc := 4) k_M_reach_4 rfl rfl (by decide) ?_
      | refine T_if_eq (tgt := 18) (pc1 := 7) (pc := 4) k_M_reach_4 rfl rfl (fun hc => ?_) (fun hc => ?_)
      | refine T_iload_n (pc1 := 8) (pc := 7) k_M_reach_7 rfl rfl ?_
      | refine T_iconst (v := (nI 0)) (pc1 := 9) (pc := 8) k_M_reach_8 rfl (by decide) ?_
      | refine T_sipush (v := (nI 999)) (pc1 := 12) (pc := 9) k_M_reach_9 rfl (by decide) ?_
      | (refine T_cS (As := [_, _, _]) (d1 := 1) (pc1 := 15) (pc := 12) k_M_reach_12 rfl (by decide) (Nat.le_of_ble_eq_true rfl) rfl o_M_within l_M_95 rfl (c_M_within (fun hw => ?_) (fun hw => ?_)) <;> try dsimp only [psh])
      | (with_reducible refine T_if_neN (tgt := 21) (pc1 := 18) (pc := 15) k_M_reach_15 (by decide) (by decide) (by omega) (fun hc => ?_) (fun hc => ?_) <;> first | (exfalso; omega) | skip)
      | refine T_if_ne_t (tgt := 21) (pc := 15) k_M_reach_15 rfl (by decide) ?_
      | refine T_if_ne_f (tgt := 21) (pc1 := 18) (pc := 15) k_M_reach_15 rfl rfl (by decide) ?_
      | refine T_if_ne (tgt := 21) (pc1 := 18) (pc := 15) k_M_reach_15 rfl rfl (fun hc => ?_) (fun hc => ?_)
      | refine T_ldc (v := (-1000000001)) (pc1 := 20) (pc := 18) k_M_reach_18 rfl c_M_111 ?_
      | refine T_retI (pc := 20) k_M_reach_20 rfl (by first | rfl | decide | assumption) ?_)
    all_goals first | exact kk _ _ eqx_rf rfl | (exfalso; exact hok ⟨by assumption, by constructor <;> omega⟩)
set_option maxHeartbeats 4000000 in
theorem c_M_ever {N : Row} {n tn : Nat} {f t m : Int32} (G : GeoOK g) (hN : I 102 = N) (ok : okL N n tn) (kk : ∀ J r, eqx [104, 105, 106, 112, 113] I J → r = everA N n tn f t m → K (some (.int r)) g J) : Cl 6 M_M_ever [.ref 101, .int f, .int t, .int m] g I K := by
  show Rl 6 M_M_ever 0 [some (.ref 101), some (.int f), some (.int t), some (.int m), none, none, none] [] g I K
  obtain ⟨hn, h14, -⟩ := id ok
  have e0 : (nI 1).toInt = 1 := rfl
  have e40 : (nI 40).toInt = 40 := rfl
  by_cases hok : (rg 8 f ∧ rg 8 t) ∧ bt 1 40 m
  · rw [everA, if_pos hok] at kk
    obtain ⟨fr, hf, rfl⟩ := rg_of hok.1.1 (by omega)
    obtain ⟨to0, ht, rfl⟩ := rg_of hok.1.2 (by omega)
    obtain ⟨x, hx1, hx, rfl⟩ := bt_of (lo := 1) (hi := 40) hok.2 (by omega)
    have ex := nI_toInt (n := x) (by omega)
    rw [nI_clamp (by omega), nI_clamp (by omega), nI_clamp (by omega)] at kk
    have inner : ∀ q i k tr F (M : Row) (J : IM), i + q = tr → tr ≤ 60 → J 102 = M → M 9 = nI tr → (∀ i, i < tr → ∃ b, b < 14 ∧ M (96 + i) = nI b) → F < 2 ^ 14 →
        (∀ o6, Rl 6 M_M_ever 92 [some (.ref 101), some (.int (nI fr)), some (.int (nI to0)), some (.int (nI x)), some (.int (nI (tmk M F tr))), some (.int (nI k)), o6] [] g J K) →
        Rl 6 M_M_ever 57 [some (.ref 101), some (.int (nI fr)), some (.int (nI to0)), some (.int (nI x)), some (.int (nI (tmk M F i))), some (.int (nI k)), some (.int (nI i))] [] g J K := by
      intro q
      induction q with
      | zero =>
        intro i k tr F M J hi h60 hJN h9 hb hF kx
        have hi : i = tr := by omega
        subst hi
        repeat' (first
          | refine T_iload_n (pc1 := 1) (pc := 0) k_M_ever_0 rfl rfl ?_
          | refine T_iload_n (pc1 := 2) (pc := 1) k_M_ever_1 rfl rfl ?_
          | (refine T_cS (As := [_, _]) (d1 := 3) (pc1 := 5) (pc := 2) k_M_ever_2 rfl (by decide) (Nat.le_of_ble_eq_true rfl) rfl o_M_areSpots l_M_107 rfl (c_M_areSpots (fun hw => ?_) (fun hw => ?_)) <;> try dsimp only [psh])
          | (with_reducible refine T_if_eqN (tgt := 18) (pc1 := 8) (pc := 5) k_M_ever_5 (by decide) (by decide) (by omega) (fun hc => ?_) (fun hc => ?_) <;> first | (exfalso; omega) | skip)
          | refine T_if_eq_t (tgt := 18) (pc := 5) k_M_ever_5 rfl (by decide) ?_
          | refine T_if_eq_f (tgt := 18) (pc1 := 8) (pc := 5) k_M_ever_5 rfl rfl (by decide) ?_
          | refine T_if_eq (tgt := 18) (pc1 := 8) (pc := 5) k_M_ever_5 rfl rfl (fun hc => ?_) (fun hc => ?_)
          | refine T_iload_n (pc1 := 9) (pc := 8) k_M_ever_8 rfl rfl ?_
          | refine T_iconst (v := (nI 1)) (pc1 := 10) (pc := 9) k_M_ever_9 rfl (by decide) ?_
          | refine T_bipush (v := (nI 40)) (pc1 := 12) (pc := 10) k_M_ever_10 rfl (by decide) ?_
          | (refine T_cS (As := [_, _, _]) (d1 := 1) (pc1 := 15) (pc := 12) k_M_ever_12 rfl (by decide) (Nat.le_of_ble_eq_true rfl) rfl o_M_within l_M_95 rfl (c_M_within (fun hw => ?_) (fun hw => ?_)) <;> try dsimp only [psh])
          | (with_reducible refine T_if_neN (tgt := 21) (pc1 := 18) (pc := 15) k_M_ever_15 (by decide) (by decide) (by omega) (fun hc => ?_) (fun hc => ?_) <;> first | (exfalso; omega) | skip)
          | refine T_if_ne_t (tgt := 21) (pc := 15) k_M_ever_15 rfl (by decide) ?_
          | refine T_if_ne_f (tgt := 21) (pc1 := 18) (pc := 15) k_M_ever_15 rfl rfl (by decide) ?_
          | refine T_if_ne (tgt := 21) (pc1 := 18) (pc := 15) k_M_ever_15 rfl rfl (fun hc => ?_) (fun hc => ?_)
          | refine T_ldc (v := (-1000000001)) (pc1 := 20) (pc := 18) k_M_ever_18 rfl c_M_111 ?_
          | refine T_retI (pc := 20) k_M_ever_20 rfl (by first | rfl | decide | assumption) ?_
          | refine T_aload_n (pc1 := 22) (pc := 21) k_M_ever_21 rfl rfl ?_
          | refine T_aload_nN (pc1 := 22) (pc := 21) k_M_ever_21 rfl rfl ?_
          | refine T_getR (pc1 := 25) (pc := 22) k_M_ever_22 rfl f_M_9 rfl (by first | exact ga G (by decide) rfl | assumption) (by first | exact gr G (by decide) rfl | assumption) ?_
          | refine T_aload_n (pc1 := 26) (pc := 25) k_M_ever_25 rfl rfl ?_
          | refine T_aload_nN (pc1 := 26) (pc := 25) k_M_ever_25 rfl rfl ?_
          | refine T_getR (pc1 := 29) (pc := 26) k_M_ever_26 rfl f_M_16 rfl (by first | exact ga G (by decide) rfl | assumption) (by first | exact gr G (by decide) rfl | assumption) ?_
          | refine T_sipush (v := (nI 156)) (pc1 := 32) (pc := 29) k_M_ever_29 rfl (by decide) ?_
          | (refine T_cS (As := [_, _, _]) (d1 := 1) (pc1 := 35) (pc := 32) k_M_ever_32 rfl (by decide) (Nat.le_of_ble_eq_true rfl) rfl o_M_copyRow l_M_91 rfl (c_M_copyRow (ga G (by decide) rfl) (ga G (by decide) rfl) (by omega) (by omega) (by omega) (by omega) (by decide) ?_) <;> try dsimp only [psh])
          | refine T_iconst (v := (nI 0)) (pc1 := 36) (pc := 35) k_M_ever_35 rfl (by decide) ?_
          | refine T_istore (pc1 := 38) (pc := 36) k_M_ever_36 rfl (Nat.le_of_ble_eq_true rfl) ?_
          | refine T_iconst (v := (nI 0)) (pc1 := 39) (pc := 38) k_M_ever_38 rfl (by decide) ?_
          | refine T_istore (pc1 := 41) (pc := 39) k_M_ever_39 rfl (Nat.le_of_ble_eq_true rfl) ?_
          | refine T_iload (pc1 := 43) (pc := 41) k_M_ever_41 rfl rfl ?_
          | refine T_iload_n (pc1 := 44) (pc := 43) k_M_ever_43 rfl rfl ?_
          | (with_reducible refine T_icmp_geN (tgt := 98) (pc1 := 47) (pc := 44) k_M_ever_44 (by decide) (by decide) (by omega) (by omega) (fun hc => ?_) (fun hc => ?_) <;> first | (exfalso; omega) | skip)
          | refine T_icmp_ge_t (tgt := 98) (pc := 44) k_M_ever_44 rfl (by decide) ?_
          | refine T_icmp_ge_f (tgt := 98) (pc1 := 47) (pc := 44) k_M_ever_44 rfl rfl (by decide) ?_
          | refine T_icmp_ge (tgt := 98) (pc1 := 47) (pc := 44) k_M_ever_44 rfl rfl (fun hc => ?_) (fun hc => ?_)
          | refine T_aload_n (pc1 := 48) (pc := 47) k_M_ever_47 rfl rfl ?_
          | refine T_aload_nN (pc1 := 48) (pc := 47) k_M_ever_47 rfl rfl ?_
          | refine T_iload_n (pc1 := 49) (pc := 48) k_M_ever_48 rfl rfl ?_
          | refine T_iload_n (pc1 := 50) (pc := 49) k_M_ever_49 rfl rfl ?_
          | (refine T_cV (As := [_, _]) (d1 := 5) (pc1 := 53) (pc := 50) k_M_ever_50 rfl (by decide) (Nat.le_of_ble_eq_true rfl) rfl o_M_walks l_M_174 rfl (by first | exact ga G (by decide) rfl | assumption) rfl (c_M_walks G hN ok ha hb (fun J hJ hJN => ?_)) <;> try dsimp only [psh])
          | refine T_pop (pc1 := 54) (pc := 53) k_M_ever_53 rfl rfl ?_
          | refine T_iconst (v := (nI 0)) (pc1 := 55) (pc := 54) k_M_ever_54 rfl (by decide) ?_
          | refine T_istore (pc1 := 57) (pc := 55) k_M_ever_55 rfl (Nat.le_of_ble_eq_true rfl) ?_
          | refine T_iload (pc1 := 59) (pc := 57) k_M_ever_57 rfl rfl ?_
          | refine T_aload_n (pc1 := 60) (pc := 59) k_M_ever_59 rfl rfl ?_
          | refine T_aload_nN (pc1 := 60) (pc := 59) k_M_ever_59 rfl rfl ?_
          | refine T_getR (pc1 := 63) (pc := 60) k_M_ever_60 rfl f_M_9 rfl (by first | exact ga G (by decide) rfl | assumption) (by first | exact gr G (by decide) rfl | assumption) ?_
          | refine T_bipush (v := (nI 9)) (pc1 := 65) (pc := 63) k_M_ever_63 rfl (by decide) ?_
          | refine T_ialdN (pc1 := 66) (pc := 65) k_M_ever_65 rfl (by first | exact ga G (by decide) rfl | assumption) (by omega) (by omega) (by first | assumption | (simp (disch := omega) only [pI_eq, pI_row, pI_col, va_up_self, va_up_ne, ne_eq, not_false_eq_true, hJN, h9] <;> rfl) | rfl) ?_
          | refine T_iald (pc1 := 66) (pc := 65) k_M_ever_65 rfl (by first | exact ga G (by decide) rfl | assumption) (by assumption) ?_
          | (with_reducible refine T_icmp_geN (tgt := 92) (pc1 := 69) (pc := 66) k_M_ever_66 (by decide) (by decide) (by omega) (by omega) (fun hc => ?_) (fun hc => ?_) <;> first | (exfalso; omega) | skip)
          | refine T_icmp_ge_t (tgt := 92) (pc := 66) k_M_ever_66 rfl (by decide) ?_
          | refine T_icmp_ge_f (tgt := 92) (pc1 := 69) (pc := 66) k_M_ever_66 rfl rfl (by decide) ?_
          | refine T_icmp_ge (tgt := 92) (pc1 := 69) (pc := 66) k_M_ever_66 rfl rfl (fun hc => ?_) (fun hc => ?_)
          | refine T_iload (pc1 := 71) (pc := 69) k_M_ever_69 rfl rfl ?_
          | refine T_iconst (v := (nI 1)) (pc1 := 72) (pc := 71) k_M_ever_71 rfl (by decide) ?_
          | refine T_aload_n (pc1 := 73) (pc := 72) k_M_ever_72 rfl rfl ?_
          | refine T_aload_nN (pc1 := 73) (pc := 72) k_M_ever_72 rfl rfl ?_
          | refine T_getR (pc1 := 76) (pc := 73) k_M_ever_73 rfl f_M_9 rfl (by first | exact ga G (by decide) rfl | assumption) (by first | exact gr G (by decide) rfl | assumption) ?_
          | refine T_bipush (v := (nI 96)) (pc1 := 78) (pc := 76) k_M_ever_76 rfl (by decide) ?_
          | refine T_iload (pc1 := 80) (pc := 78) k_M_ever_78 rfl rfl ?_
          | with_reducible refine T_iaddN (pc1 := 81) (pc := 80) k_M_ever_80 (by decide) ?_
          | refine T_iadd (pc1 := 81) (pc := 80) k_M_ever_80 rfl ?_
          | refine T_ialdN (pc1 := 82) (pc := 81) k_M_ever_81 rfl (by first | exact ga G (by decide) rfl | assumption) (by omega) (by omega) (by first | assumption | (simp (disch := omega) only [pI_eq, pI_row, pI_col, va_up_self, va_up_ne, ne_eq, not_false_eq_true, hJN, h9] <;> rfl) | rfl) ?_
          | refine T_iald (pc1 := 82) (pc := 81) k_M_ever_81 rfl (by first | exact ga G (by decide) rfl | assumption) (by assumption) ?_
          | refine T_ishl (pc1 := 83) (pc := 82) k_M_ever_82 rfl ?_
          | refine T_ior (pc1 := 84) (pc := 83) k_M_ever_83 rfl ?_
          | refine T_istore (pc1 := 86) (pc := 84) k_M_ever_84 rfl (Nat.le_of_ble_eq_true rfl) ?_
          | refine T_iincN (b := 1) (pc1 := 89) (pc := 86) k_M_ever_86 rfl rfl (by decide) ?_
          | refine T_iinc (v := (nI 1)) (pc1 := 89) (pc := 86) k_M_ever_86 rfl rfl (by decide) ?_
          | refine T_goto (tgt := 57) (pc := 89) k_M_ever_89 rfl ?_
          | refine T_goto (tgt := 41) (pc := 95) k_M_ever_95 rfl ?_
          | refine T_aload_n (pc1 := 99) (pc := 98) k_M_ever_98 rfl rfl ?_
          | refine T_aload_nN (pc1 := 99) (pc := 98) k_M_ever_98 rfl rfl ?_
          | refine T_iload (pc1 := 101) (pc := 99) k_M_ever_99 rfl rfl ?_
          | (refine T_cV (As := [_]) (d1 := 2) (pc1 := 104) (pc := 101) k_M_ever_101 rfl (by decide) (Nat.le_of_ble_eq_true rfl) rfl o_M_putBack l_M_183 rfl (by first | exact ga G (by decide) rfl | assumption) rfl (c_M_putBack G ?_) <;> try dsimp only [psh])
          | refine T_retI (pc := 104) k_M_ever_104 rfl (by first | rfl | decide | assumption) ?_)
        exact kx _
      | succ q ih =>
        intro i k tr F M J hi h60 hJN h9 hb hF kx
        obtain ⟨b, hb14, hbe⟩ := hb i (by omega)
        have hm := tmk_lt hF hb i (by omega)
        have hp : 2 ^ b < 2 ^ 14 := Nat.pow_lt_pow_right (by decide) hb14
        have ih := ih (i + 1) k tr F M J (by omega) h60 hJN h9 hb hF kx
        rw [tmk, hbe, nI_clamp (by omega)] at ih
        generalize tmk M F i = Z at *
        refine T_iload (pc1 := 59) (pc := 57) k_M_ever_57 rfl rfl ?_
        repeat' (first
          | refine T_iload_n (pc1 := 1) (pc := 0) k_M_ever_0 rfl rfl ?_
          | refine T_iload_n (pc1 := 2) (pc := 1) k_M_ever_1 rfl rfl ?_
          | (refine T_cS (As := [_, _]) (d1 := 3) (pc1 := 5) (pc := 2) k_M_ever_2 rfl (by decide) (Nat.le_of_ble_eq_true rfl) rfl o_M_areSpots l_M_107 rfl (c_M_areSpots (fun hw => ?_) (fun hw => ?_)) <;> try dsimp only [psh])
          | (with_reducible refine T_if_eqN (tgt := 18) (pc1 := 8) (pc := 5) k_M_ever_5 (by decide) (by decide) (by omega) (fun hc => ?_) (fun hc => ?_) <;> first | (exfalso; omega) | skip)
          | refine T_if_eq_t (tgt := 18) (pc := 5) k_M_ever_5 rfl (by decide) ?_
          | refine T_if_eq_f (tgt := 18) (pc1 := 8) (pc := 5) k_M_ever_5 rfl rfl (by decide) ?_
          | refine T_if_eq (tgt := 18) (pc1 := 8) (pc := 5) k_M_ever_5 rfl rfl (fun hc => ?_) (fun hc => ?_)
          | refine T_iload_n (pc1 := 9) (pc := 8) k_M_ever_8 rfl rfl ?_
          | refine T_iconst (v := (nI 1)) (pc1 := 10) (pc := 9) k_M_ever_9 rfl (by decide) ?_
          | refine T_bipush (v := (nI 40)) (pc1 := 12) (pc := 10) k_M_ever_10 rfl (by decide) ?_
          | (refine T_cS (As := [_, _, _]) (d1 := 1) (pc1 := 15) (pc := 12) k_M_ever_12 rfl (by decide) (Nat.le_of_ble_eq_true rfl) rfl o_M_within l_M_95 rfl (c_M_within (fun hw => ?_) (fun hw => ?_)) <;> try dsimp only [psh])
          | (with_reducible refine T_if_neN (tgt := 21) (pc1 := 18) (pc := 15) k_M_ever_15 (by decide) (by decide) (by omega) (fun hc => ?_) (fun hc => ?_) <;> first | (exfalso; omega) | skip)
          | refine T_if_ne_t (tgt := 21) (pc := 15) k_M_ever_15 rfl (by decide) ?_
          | refine T_if_ne_f (tgt := 21) (pc1 := 18) (pc := 15) k_M_ever_15 rfl rfl (by decide) ?_
          | refine T_if_ne (tgt := 21) (pc1 := 18) (pc := 15) k_M_ever_15 rfl rfl (fun hc => ?_) (fun hc => ?_)
          | refine T_ldc (v := (-1000000001)) (pc1 := 20) (pc := 18) k_M_ever_18 rfl c_M_111 ?_
          | refine T_retI (pc := 20) k_M_ever_20 rfl (by first | rfl | decide | assumption) ?_
          | refine T_aload_n (pc1 := 22) (pc := 21) k_M_ever_21 rfl rfl ?_
          | refine T_aload_nN (pc1 := 22) (pc := 21) k_M_ever_21 rfl rfl ?_
          | refine T_getR (pc1 := 25) (pc := 22) k_M_ever_22 rfl f_M_9 rfl (by first | exact ga G (by decide) rfl | assumption) (by first | exact gr G (by decide) rfl | assumption) ?_
          | refine T_aload_n (pc1 := 26) (pc := 25) k_M_ever_25 rfl rfl ?_
          | refine T_aload_nN (pc1 := 26) (pc := 25) k_M_ever_25 rfl rfl ?_
          | refine T_getR (pc1 := 29) (pc := 26) k_M_ever_26 rfl f_M_16 rfl (by first | exact ga G (by decide) rfl | assumption) (by first | exact gr G (by decide) rfl | assumption) ?_
          | refine T_sipush (v := (nI 156)) (pc1 := 32) (pc := 29) k_M_ever_29 rfl (by decide) ?_
          | (refine T_cS (As := [_, _, _]) (d1 := 1) (pc1 := 35) (pc := 32) k_M_ever_32 rfl (by decide) (Nat.le_of_ble_eq_true rfl) rfl o_M_copyRow l_M_91 rfl (c_M_copyRow (ga G (by decide) rfl) (ga G (by decide) rfl) (by omega) (by omega) (by omega) (by omega) (by decide) ?_) <;> try dsimp only [psh])
          | refine T_iconst (v := (nI 0)) (pc1 := 36) (pc := 35) k_M_ever_35 rfl (by decide) ?_
          | refine T_istore (pc1 := 38) (pc := 36) k_M_ever_36 rfl (Nat.le_of_ble_eq_true rfl) ?_
          | refine T_iconst (v := (nI 0)) (pc1 := 39) (pc := 38) k_M_ever_38 rfl (by decide) ?_
          | refine T_istore (pc1 := 41) (pc := 39) k_M_ever_39 rfl (Nat.le_of_ble_eq_true rfl) ?_
          | refine T_iload (pc1 := 43) (pc := 41) k_M_ever_41 rfl rfl ?_
          | refine T_iload_n (pc1 := 44) (pc := 43) k_M_ever_43 rfl rfl ?_
          | (with_reducible refine T_icmp_geN (tgt := 98) (pc1 := 47) (pc := 44) k_M_ever_44 (by decide) (by decide) (by omega) (by omega) (fun hc => ?_) (fun hc => ?_) <;> first | (exfalso; omega) | skip)
          | refine T_icmp_ge_t (tgt := 98) (pc := 44) k_M_ever_44 rfl (by decide) ?_
          | refine T_icmp_ge_f (tgt := 98) (pc1 := 47) (pc := 44) k_M_ever_44 rfl rfl (by decide) ?_
          | refine T_icmp_ge (tgt := 98) (pc1 := 47) (pc := 44) k_M_ever_44 rfl rfl (fun hc => ?_) (fun hc => ?_)
          | refine T_aload_n (pc1 := 48) (pc := 47) k_M_ever_47 rfl rfl ?_
          | refine T_aload_nN (pc1 := 48) (pc := 47) k_M_ever_47 rfl rfl ?_
          | refine T_iload_n (pc1 := 49) (pc := 48) k_M_ever_48 rfl rfl ?_
          | refine T_iload_n (pc1 := 50) (pc := 49) k_M_ever_49 rfl rfl ?_
          | (refine T_cV (As := [_, _]) (d1 := 5) (pc1 := 53) (pc := 50) k_M_ever_50 rfl (by decide) (Nat.le_of_ble_eq_true rfl) rfl o_M_walks l_M_174 rfl (by first | exact ga G (by decide) rfl | assumption) rfl (c_M_walks G hN ok ha hb (fun J hJ hJN => ?_)) <;> try dsimp only [psh])
          | refine T_pop (pc1 := 54) (pc := 53) k_M_ever_53 rfl rfl ?_
          | refine T_iconst (v := (nI 0)) (pc1 := 55) (pc := 54) k_M_ever_54 rfl (by decide) ?_
          | refine T_istore (pc1 := 57) (pc := 55) k_M_ever_55 rfl (Nat.le_of_ble_eq_true rfl) ?_
          | refine T_aload_n (pc1 := 60) (pc := 59) k_M_ever_59 rfl rfl ?_
          | refine T_aload_nN (pc1 := 60) (pc := 59) k_M_ever_59 rfl rfl ?_
          | refine T_getR (pc1 := 63) (pc := 60) k_M_ever_60 rfl f_M_9 rfl (by first | exact ga G (by decide) rfl | assumption) (by first | exact gr G (by decide) rfl | assumption) ?_
          | refine T_bipush (v := (nI 9)) (pc1 := 65) (pc := 63) k_M_ever_63 rfl (by decide) ?_
          | refine T_ialdN (pc1 := 66) (pc := 65) k_M_ever_65 rfl (by first | exact ga G (by decide) rfl | assumption) (by omega) (by omega) (by first | assumption | (simp (disch := omega) only [pI_eq, pI_row, pI_col, va_up_self, va_up_ne, ne_eq, not_false_eq_true, hJN, h9, hbe] <;> rfl) | rfl) ?_
          | refine T_iald (pc1 := 66) (pc := 65) k_M_ever_65 rfl (by first | exact ga G (by decide) rfl | assumption) (by assumption) ?_
          | (with_reducible refine T_icmp_geN (tgt := 92) (pc1 := 69) (pc := 66) k_M_ever_66 (by decide) (by decide) (by omega) (by omega) (fun hc => ?_) (fun hc => ?_) <;> first | (exfalso; omega) | skip)
          | refine T_icmp_ge_t (tgt := 92) (pc := 66) k_M_ever_66 rfl (by decide) ?_
          | refine T_icmp_ge_f (tgt := 92) (pc1 := 69) (pc := 66) k_M_ever_66 rfl rfl (by decide) ?_
          | refine T_icmp_ge (tgt := 92) (pc1 := 69) (pc := 66) k_M_ever_66 rfl rfl (fun hc => ?_) (fun hc => ?_)
          | refine T_iload (pc1 := 71) (pc := 69) k_M_ever_69 rfl rfl ?_
          | refine T_iconst (v := (nI 1)) (pc1 := 72) (pc := 71) k_M_ever_71 rfl (by decide) ?_
          | refine T_aload_n (pc1 := 73) (pc := 72) k_M_ever_72 rfl rfl ?_
          | refine T_aload_nN (pc1 := 73) (pc := 72) k_M_ever_72 rfl rfl ?_
          | refine T_getR (pc1 := 76) (pc := 73) k_M_ever_73 rfl f_M_9 rfl (by first | exact ga G (by decide) rfl | assumption) (by first | exact gr G (by decide) rfl | assumption) ?_
          | refine T_bipush (v := (nI 96)) (pc1 := 78) (pc := 76) k_M_ever_76 rfl (by decide) ?_
          | refine T_iload (pc1 := 80) (pc := 78) k_M_ever_78 rfl rfl ?_
          | with_reducible refine T_iaddN (pc1 := 81) (pc := 80) k_M_ever_80 (by decide) ?_
          | refine T_iadd (pc1 := 81) (pc := 80) k_M_ever_80 rfl ?_
          | refine T_ialdN (pc1 := 82) (pc := 81) k_M_ever_81 rfl (by first | exact ga G (by decide) rfl | assumption) (by omega) (by omega) (by first | assumption | (simp (disch := omega) only [pI_eq, pI_row, pI_col, va_up_self, va_up_ne, ne_eq, not_false_eq_true, hJN, h9, hbe] <;> rfl) | rfl) ?_
          | refine T_iald (pc1 := 82) (pc := 81) k_M_ever_81 rfl (by first | exact ga G (by decide) rfl | assumption) (by assumption) ?_
          | (refine T_ishl (pc1 := 83) (pc := 82) k_M_ever_82 rfl ?_; rw [shl_nI b (by omega)])
          | (refine T_ior (pc1 := 84) (pc := 83) k_M_ever_83 rfl ?_; rw [or_nI (by omega) (by omega)])
          | refine T_istore (pc1 := 86) (pc := 84) k_M_ever_84 rfl (Nat.le_of_ble_eq_true rfl) ?_
          | refine T_iincN (b := 1) (pc1 := 89) (pc := 86) k_M_ever_86 rfl rfl (by decide) ?_
          | refine T_iinc (v := (nI 1)) (pc1 := 89) (pc := 86) k_M_ever_86 rfl rfl (by decide) ?_
          | refine T_goto (tgt := 57) (pc := 89) k_M_ever_89 rfl ?_
          | refine T_iincN (b := 1) (pc1 := 95) (pc := 92) k_M_ever_92 rfl rfl (by decide) ?_
          | refine T_iinc (v := (nI 1)) (pc1 := 95) (pc := 92) k_M_ever_92 rfl rfl (by decide) ?_
          | refine T_goto (tgt := 41) (pc := 95) k_M_ever_95 rfl ?_
          | refine T_aload_n (pc1 := 99) (pc := 98) k_M_ever_98 rfl rfl ?_
          | refine T_aload_nN (pc1 := 99) (pc := 98) k_M_ever_98 rfl rfl ?_
          | refine T_iload (pc1 := 101) (pc := 99) k_M_ever_99 rfl rfl ?_
          | (refine T_cV (As := [_]) (d1 := 2) (pc1 := 104) (pc := 101) k_M_ever_101 rfl (by decide) (Nat.le_of_ble_eq_true rfl) rfl o_M_putBack l_M_183 rfl (by first | exact ga G (by decide) rfl | assumption) rfl (c_M_putBack G ?_) <;> try dsimp only [psh])
          | refine T_retI (pc := 104) k_M_ever_104 rfl (by first | rfl | decide | assumption) ?_)
        exact ih
    have outer : ∀ q k o6 (J : IM), k + q = x → eqx [102, 104, 105, 106, 112, 113] I J → J 104 = cpy 156 N (I 104) → J 102 = itN N n tn fr to0 k → Rl 6 M_M_ever 41 [some (.ref 101), some (.int (nI fr)), some (.int (nI to0)), some (.int (nI x)), some (.int (nI (evF N n tn fr to0 k))), some (.int (nI k)), o6] [] g J K := by
      intro q
      induction q with
      | zero =>
        intro k o6 J hk hJ h104 hJN
        have hk : k = x := by omega
        subst hk
        obtain ⟨ok1, ok2⟩ := itN_ok (fr := fr) (to0 := to0) ok hf ht k
        repeat' (first
          | refine T_iload_n (pc1 := 1) (pc := 0) k_M_ever_0 rfl rfl ?_
          | refine T_iload_n (pc1 := 2) (pc := 1) k_M_ever_1 rfl rfl ?_
          | (refine T_cS (As := [_, _]) (d1 := 3) (pc1 := 5) (pc := 2) k_M_ever_2 rfl (by decide) (Nat.le_of_ble_eq_true rfl) rfl o_M_areSpots l_M_107 rfl (c_M_areSpots (fun hw => ?_) (fun hw => ?_)) <;> try dsimp only [psh])
          | (with_reducible refine T_if_eqN (tgt := 18) (pc1 := 8) (pc := 5) k_M_ever_5 (by decide) (by decide) (by omega) (fun hc => ?_) (fun hc => ?_) <;> first | (exfalso; omega) | skip)
          | refine T_if_eq_t (tgt := 18) (pc := 5) k_M_ever_5 rfl (by decide) ?_
          | refine T_if_eq_f (tgt := 18) (pc1 := 8) (pc := 5) k_M_ever_5 rfl rfl (by decide) ?_
          | refine T_if_eq (tgt := 18) (pc1 := 8) (pc := 5) k_M_ever_5 rfl rfl (fun hc => ?_) (fun hc => ?_)
          | refine T_iload_n (pc1 := 9) (pc := 8) k_M_ever_8 rfl rfl ?_
          | refine T_iconst (v := (nI 1)) (pc1 := 10) (pc := 9) k_M_ever_9 rfl (by decide) ?_
          | refine T_bipush (v := (nI 40)) (pc1 := 12) (pc := 10) k_M_ever_10 rfl (by decide) ?_
          | (refine T_cS (As := [_, _, _]) (d1 := 1) (pc1 := 15) (pc := 12) k_M_ever_12 rfl (by decide) (Nat.le_of_ble_eq_true rfl) rfl o_M_within l_M_95 rfl (c_M_within (fun hw => ?_) (fun hw => ?_)) <;> try dsimp only [psh])
          | (with_reducible refine T_if_neN (tgt := 21) (pc1 := 18) (pc := 15) k_M_ever_15 (by decide) (by decide) (by omega) (fun hc => ?_) (fun hc => ?_) <;> first | (exfalso; omega) | skip)
          | refine T_if_ne_t (tgt := 21) (pc := 15) k_M_ever_15 rfl (by decide) ?_
          | refine T_if_ne_f (tgt := 21) (pc1 := 18) (pc := 15) k_M_ever_15 rfl rfl (by decide) ?_
          | refine T_if_ne (tgt := 21) (pc1 := 18) (pc := 15) k_M_ever_15 rfl rfl (fun hc => ?_) (fun hc => ?_)
          | refine T_ldc (v := (-1000000001)) (pc1 := 20) (pc := 18) k_M_ever_18 rfl c_M_111 ?_
          | refine T_retI (pc := 20) k_M_ever_20 rfl (by first | rfl | decide | assumption) ?_
          | refine T_aload_n (pc1 := 22) (pc := 21) k_M_ever_21 rfl rfl ?_
          | refine T_aload_nN (pc1 := 22) (pc := 21) k_M_ever_21 rfl rfl ?_
          | refine T_getR (pc1 := 25) (pc := 22) k_M_ever_22 rfl f_M_9 rfl (by first | exact ga G (by decide) rfl | assumption) (by first | exact gr G (by decide) rfl | assumption) ?_
          | refine T_aload_n (pc1 := 26) (pc := 25) k_M_ever_25 rfl rfl ?_
          | refine T_aload_nN (pc1 := 26) (pc := 25) k_M_ever_25 rfl rfl ?_
          | refine T_getR (pc1 := 29) (pc := 26) k_M_ever_26 rfl f_M_16 rfl (by first | exact ga G (by decide) rfl | assumption) (by first | exact gr G (by decide) rfl | assumption) ?_
          | refine T_sipush (v := (nI 156)) (pc1 := 32) (pc := 29) k_M_ever_29 rfl (by decide) ?_
          | (refine T_cS (As := [_, _, _]) (d1 := 1) (pc1 := 35) (pc := 32) k_M_ever_32 rfl (by decide) (Nat.le_of_ble_eq_true rfl) rfl o_M_copyRow l_M_91 rfl (c_M_copyRow (ga G (by decide) rfl) (ga G (by decide) rfl) (by omega) (by omega) (by omega) (by omega) (by decide) ?_) <;> try dsimp only [psh])
          | refine T_iconst (v := (nI 0)) (pc1 := 36) (pc := 35) k_M_ever_35 rfl (by decide) ?_
          | refine T_istore (pc1 := 38) (pc := 36) k_M_ever_36 rfl (Nat.le_of_ble_eq_true rfl) ?_
          | refine T_iconst (v := (nI 0)) (pc1 := 39) (pc := 38) k_M_ever_38 rfl (by decide) ?_
          | refine T_istore (pc1 := 41) (pc := 39) k_M_ever_39 rfl (Nat.le_of_ble_eq_true rfl) ?_
          | refine T_iload (pc1 := 43) (pc := 41) k_M_ever_41 rfl rfl ?_
          | refine T_iload_n (pc1 := 44) (pc := 43) k_M_ever_43 rfl rfl ?_
          | (with_reducible refine T_icmp_geN (tgt := 98) (pc1 := 47) (pc := 44) k_M_ever_44 (by decide) (by decide) (by omega) (by omega) (fun hc => ?_) (fun hc => ?_) <;> first | (exfalso; omega) | skip)
          | refine T_icmp_ge_t (tgt := 98) (pc := 44) k_M_ever_44 rfl (by decide) ?_
          | refine T_icmp_ge_f (tgt := 98) (pc1 := 47) (pc := 44) k_M_ever_44 rfl rfl (by decide) ?_
          | refine T_icmp_ge (tgt := 98) (pc1 := 47) (pc := 44) k_M_ever_44 rfl rfl (fun hc => ?_) (fun hc => ?_)
          | refine T_aload_n (pc1 := 48) (pc := 47) k_M_ever_47 rfl rfl ?_
          | refine T_aload_nN (pc1 := 48) (pc := 47) k_M_ever_47 rfl rfl ?_
          | refine T_iload_n (pc1 := 49) (pc := 48) k_M_ever_48 rfl rfl ?_
          | refine T_iload_n (pc1 := 50) (pc := 49) k_M_ever_49 rfl rfl ?_
          | (refine T_cV (As := [_, _]) (d1 := 5) (pc1 := 53) (pc := 50) k_M_ever_50 rfl (by decide) (Nat.le_of_ble_eq_true rfl) rfl o_M_walks l_M_174 rfl (by first | exact ga G (by decide) rfl | assumption) rfl (c_M_walks G hN ok ha hb (fun J hJ hJN => ?_)) <;> try dsimp only [psh])
          | refine T_pop (pc1 := 54) (pc := 53) k_M_ever_53 rfl rfl ?_
          | refine T_iconst (v := (nI 0)) (pc1 := 55) (pc := 54) k_M_ever_54 rfl (by decide) ?_
          | refine T_istore (pc1 := 57) (pc := 55) k_M_ever_55 rfl (Nat.le_of_ble_eq_true rfl) ?_
          | refine T_iload (pc1 := 59) (pc := 57) k_M_ever_57 rfl rfl ?_
          | refine T_aload_n (pc1 := 60) (pc := 59) k_M_ever_59 rfl rfl ?_
          | refine T_aload_nN (pc1 := 60) (pc := 59) k_M_ever_59 rfl rfl ?_
          | refine T_getR (pc1 := 63) (pc := 60) k_M_ever_60 rfl f_M_9 rfl (by first | exact ga G (by decide) rfl | assumption) (by first | exact gr G (by decide) rfl | assumption) ?_
          | refine T_bipush (v := (nI 9)) (pc1 := 65) (pc := 63) k_M_ever_63 rfl (by decide) ?_
          | refine T_ialdN (pc1 := 66) (pc := 65) k_M_ever_65 rfl (by first | exact ga G (by decide) rfl | assumption) (by omega) (by omega) (by first | assumption | (simp (disch := omega) only [pI_eq, pI_row, pI_col, va_up_self, va_up_ne, ne_eq, not_false_eq_true, hJN, h9, hbe] <;> rfl) | rfl) ?_
          | refine T_iald (pc1 := 66) (pc := 65) k_M_ever_65 rfl (by first | exact ga G (by decide) rfl | assumption) (by assumption) ?_
          | (with_reducible refine T_icmp_geN (tgt := 92) (pc1 := 69) (pc := 66) k_M_ever_66 (by decide) (by decide) (by omega) (by omega) (fun hc => ?_) (fun hc => ?_) <;> first | (exfalso; omega) | skip)
          | refine T_icmp_ge_t (tgt := 92) (pc := 66) k_M_ever_66 rfl (by decide) ?_
          | refine T_icmp_ge_f (tgt := 92) (pc1 := 69) (pc := 66) k_M_ever_66 rfl rfl (by decide) ?_
          | refine T_icmp_ge (tgt := 92) (pc1 := 69) (pc := 66) k_M_ever_66 rfl rfl (fun hc => ?_) (fun hc => ?_)
          | refine T_iload (pc1 := 71) (pc := 69) k_M_ever_69 rfl rfl ?_
          | refine T_iconst (v := (nI 1)) (pc1 := 72) (pc := 71) k_M_ever_71 rfl (by decide) ?_
          | refine T_aload_n (pc1 := 73) (pc := 72) k_M_ever_72 rfl rfl ?_
          | refine T_aload_nN (pc1 := 73) (pc := 72) k_M_ever_72 rfl rfl ?_
          | refine T_getR (pc1 := 76) (pc := 73) k_M_ever_73 rfl f_M_9 rfl (by first | exact ga G (by decide) rfl | assumption) (by first | exact gr G (by decide) rfl | assumption) ?_
          | refine T_bipush (v := (nI 96)) (pc1 := 78) (pc := 76) k_M_ever_76 rfl (by decide) ?_
          | refine T_iload (pc1 := 80) (pc := 78) k_M_ever_78 rfl rfl ?_
          | with_reducible refine T_iaddN (pc1 := 81) (pc := 80) k_M_ever_80 (by decide) ?_
          | refine T_iadd (pc1 := 81) (pc := 80) k_M_ever_80 rfl ?_
          | refine T_ialdN (pc1 := 82) (pc := 81) k_M_ever_81 rfl (by first | exact ga G (by decide) rfl | assumption) (by omega) (by omega) (by first | assumption | (simp (disch := omega) only [pI_eq, pI_row, pI_col, va_up_self, va_up_ne, ne_eq, not_false_eq_true, hJN, h9, hbe] <;> rfl) | rfl) ?_
          | refine T_iald (pc1 := 82) (pc := 81) k_M_ever_81 rfl (by first | exact ga G (by decide) rfl | assumption) (by assumption) ?_
          | (refine T_ishl (pc1 := 83) (pc := 82) k_M_ever_82 rfl ?_; rw [shl_nI b (by omega)])
          | (refine T_ior (pc1 := 84) (pc := 83) k_M_ever_83 rfl ?_; rw [or_nI (by omega) (by omega)])
          | refine T_istore (pc1 := 86) (pc := 84) k_M_ever_84 rfl (Nat.le_of_ble_eq_true rfl) ?_
          | refine T_iincN (b := 1) (pc1 := 89) (pc := 86) k_M_ever_86 rfl rfl (by decide) ?_
          | refine T_iinc (v := (nI 1)) (pc1 := 89) (pc := 86) k_M_ever_86 rfl rfl (by decide) ?_
          | refine T_goto (tgt := 57) (pc := 89) k_M_ever_89 rfl ?_
          | refine T_iincN (b := 1) (pc1 := 95) (pc := 92) k_M_ever_92 rfl rfl (by decide) ?_
          | refine T_iinc (v := (nI 1)) (pc1 := 95) (pc := 92) k_M_ever_92 rfl rfl (by decide) ?_
          | refine T_goto (tgt := 41) (pc := 95) k_M_ever_95 rfl ?_
          | refine T_aload_n (pc1 := 99) (pc := 98) k_M_ever_98 rfl rfl ?_
          | refine T_aload_nN (pc1 := 99) (pc := 98) k_M_ever_98 rfl rfl ?_
          | refine T_iload (pc1 := 101) (pc := 99) k_M_ever_99 rfl rfl ?_
          | (refine T_cV (As := [_]) (d1 := 2) (pc1 := 104) (pc := 101) k_M_ever_101 rfl (by decide) (Nat.le_of_ble_eq_true rfl) rfl o_M_putBack l_M_183 rfl (by first | exact ga G (by decide) rfl | assumption) rfl (c_M_putBack G ?_) <;> try dsimp only [psh])
          | refine T_retI (pc := 104) k_M_ever_104 rfl (by first | rfl | decide | assumption) ?_)
        exact kk _ _ (back_eq hN hJ h104 (fun k hk => by rw [hJN]; exact ok2 k hk)) rfl
      | succ q ih =>
        intro k o6 J hk hJ h104 hJN
        obtain ⟨ok1, ok2⟩ := itN_ok (fr := fr) (to0 := to0) ok hf ht k
        obtain ⟨tr, h60, h9, -, hb⟩ := itN_okW (fr := fr) (to0 := to0) ok hf ht k
        have ih := ih (k + 1)
        rw [evF, h9, nI_clamp (by omega)] at ih
        refine T_iload (pc1 := 43) (pc := 41) k_M_ever_41 rfl rfl ?_
        repeat' (first
          | refine T_iload_n (pc1 := 1) (pc := 0) k_M_ever_0 rfl rfl ?_
          | refine T_iload_n (pc1 := 2) (pc := 1) k_M_ever_1 rfl rfl ?_
          | (refine T_cS (As := [_, _]) (d1 := 3) (pc1 := 5) (pc := 2) k_M_ever_2 rfl (by decide) (Nat.le_of_ble_eq_true rfl) rfl o_M_areSpots l_M_107 rfl (c_M_areSpots (fun hw => ?_) (fun hw => ?_)) <;> try dsimp only [psh])
          | (with_reducible refine T_if_eqN (tgt := 18) (pc1 := 8) (pc := 5) k_M_ever_5 (by decide) (by decide) (by omega) (fun hc => ?_) (fun hc => ?_) <;> first | (exfalso; omega) | skip)
          | refine T_if_eq_t (tgt := 18) (pc := 5) k_M_ever_5 rfl (by decide) ?_
          | refine T_if_eq_f (tgt := 18) (pc1 := 8) (pc := 5) k_M_ever_5 rfl rfl (by decide) ?_
          | refine T_if_eq (tgt := 18) (pc1 := 8) (pc := 5) k_M_ever_5 rfl rfl (fun hc => ?_) (fun hc => ?_)
          | refine T_iload_n (pc1 := 9) (pc := 8) k_M_ever_8 rfl rfl ?_
          | refine T_iconst (v := (nI 1)) (pc1 := 10) (pc := 9) k_M_ever_9 rfl (by decide) ?_
          | refine T_bipush (v := (nI 40)) (pc1 := 12) (pc := 10) k_M_ever_10 rfl (by decide) ?_
          | (refine T_cS (As := [_, _, _]) (d1 := 1) (pc1 := 15) (pc := 12) k_M_ever_12 rfl (by decide) (Nat.le_of_ble_eq_true rfl) rfl o_M_within l_M_95 rfl (c_M_within (fun hw => ?_) (fun hw => ?_)) <;> try dsimp only [psh])
          | (with_reducible refine T_if_neN (tgt := 21) (pc1 := 18) (pc := 15) k_M_ever_15 (by decide) (by decide) (by omega) (fun hc => ?_) (fun hc => ?_) <;> first | (exfalso; omega) | skip)
          | refine T_if_ne_t (tgt := 21) (pc := 15) k_M_ever_15 rfl (by decide) ?_
          | refine T_if_ne_f (tgt := 21) (pc1 := 18) (pc := 15) k_M_ever_15 rfl rfl (by decide) ?_
          | refine T_if_ne (tgt := 21) (pc1 := 18) (pc := 15) k_M_ever_15 rfl rfl (fun hc => ?_) (fun hc => ?_)
          | refine T_ldc (v := (-1000000001)) (pc1 := 20) (pc := 18) k_M_ever_18 rfl c_M_111 ?_
          | refine T_retI (pc := 20) k_M_ever_20 rfl (by first | rfl | decide | assumption) ?_
          | refine T_aload_n (pc1 := 22) (pc := 21) k_M_ever_21 rfl rfl ?_
          | refine T_aload_nN (pc1 := 22) (pc := 21) k_M_ever_21 rfl rfl ?_
          | refine T_getR (pc1 := 25) (pc := 22) k_M_ever_22 rfl f_M_9 rfl (by first | exact ga G (by decide) rfl | assumption) (by first | exact gr G (by decide) rfl | assumption) ?_
          | refine T_aload_n (pc1 := 26) (pc := 25) k_M_ever_25 rfl rfl ?_
          | refine T_aload_nN (pc1 := 26) (pc := 25) k_M_ever_25 rfl rfl ?_
          | refine T_getR (pc1 := 29) (pc := 26) k_M_ever_26 rfl f_M_16 rfl (by first | exact ga G (by decide) rfl | assumption) (by first | exact gr G (by decide) rfl | assumption) ?_
          | refine T_sipush (v := (nI 156)) (pc1 := 32) (pc := 29) k_M_ever_29 rfl (by decide) ?_
          | (refine T_cS (As := [_, _, _]) (d1 := 1) (pc1 := 35) (pc := 32) k_M_ever_32 rfl (by decide) (Nat.le_of_ble_eq_true rfl) rfl o_M_copyRow l_M_91 rfl (c_M_copyRow (ga G (by decide) rfl) (ga G (by decide) rfl) (by omega) (by omega) (by omega) (by omega) (by decide) ?_) <;> try dsimp only [psh])
          | refine T_iconst (v := (nI 0)) (pc1 := 36) (pc := 35) k_M_ever_35 rfl (by decide) ?_
          | refine T_istore (pc1 := 38) (pc := 36) k_M_ever_36 rfl (Nat.le_of_ble_eq_true rfl) ?_
          | refine T_iconst (v := (nI 0)) (pc1 := 39) (pc := 38) k_M_ever_38 rfl (by decide) ?_
          | refine T_istore (pc1 := 41) (pc := 39) k_M_ever_39 rfl (Nat.le_of_ble_eq_true rfl) ?_
          | refine T_iload_n (pc1 := 44) (pc := 43) k_M_ever_43 rfl rfl ?_
          | (with_reducible refine T_icmp_geN (tgt := 98) (pc1 := 47) (pc := 44) k_M_ever_44 (by decide) (by decide) (by omega) (by omega) (fun hc => ?_) (fun hc => ?_) <;> first | (exfalso; omega) | skip)
          | refine T_icmp_ge_t (tgt := 98) (pc := 44) k_M_ever_44 rfl (by decide) ?_
          | refine T_icmp_ge_f (tgt := 98) (pc1 := 47) (pc := 44) k_M_ever_44 rfl rfl (by decide) ?_
          | refine T_icmp_ge (tgt := 98) (pc1 := 47) (pc := 44) k_M_ever_44 rfl rfl (fun hc => ?_) (fun hc => ?_)
          | refine T_aload_n (pc1 := 48) (pc := 47) k_M_ever_47 rfl rfl ?_
          | refine T_aload_nN (pc1 := 48) (pc := 47) k_M_ever_47 rfl rfl ?_
          | refine T_iload_n (pc1 := 49) (pc := 48) k_M_ever_48 rfl rfl ?_
          | refine T_iload_n (pc1 := 50) (pc := 49) k_M_ever_49 rfl rfl ?_
          | (refine T_cV (As := [_, _]) (d1 := 5) (pc1 := 53) (pc := 50) k_M_ever_50 rfl (by decide) (Nat.le_of_ble_eq_true rfl) rfl o_M_walks l_M_174 rfl (by first | exact ga G (by decide) rfl | assumption) rfl (c_M_walks G hJN ok1 hf ht (fun J2 hJ2 hJ2N => ?_)) <;> try dsimp only [psh])
          | refine T_pop (pc1 := 54) (pc := 53) k_M_ever_53 rfl rfl ?_
          | refine T_iconst (v := (nI 0)) (pc1 := 55) (pc := 54) k_M_ever_54 rfl (by decide) ?_
          | refine T_istore (pc1 := 57) (pc := 55) k_M_ever_55 rfl (Nat.le_of_ble_eq_true rfl) ?_
          | refine T_aload_n (pc1 := 60) (pc := 59) k_M_ever_59 rfl rfl ?_
          | refine T_aload_nN (pc1 := 60) (pc := 59) k_M_ever_59 rfl rfl ?_
          | refine T_getR (pc1 := 63) (pc := 60) k_M_ever_60 rfl f_M_9 rfl (by first | exact ga G (by decide) rfl | assumption) (by first | exact gr G (by decide) rfl | assumption) ?_
          | refine T_bipush (v := (nI 9)) (pc1 := 65) (pc := 63) k_M_ever_63 rfl (by decide) ?_
          | refine T_ialdN (pc1 := 66) (pc := 65) k_M_ever_65 rfl (by first | exact ga G (by decide) rfl | assumption) (by omega) (by omega) (by first | assumption | (simp (disch := omega) only [pI_eq, pI_row, pI_col, va_up_self, va_up_ne, ne_eq, not_false_eq_true, hJN, h9, hbe] <;> rfl) | rfl) ?_
          | refine T_iald (pc1 := 66) (pc := 65) k_M_ever_65 rfl (by first | exact ga G (by decide) rfl | assumption) (by assumption) ?_
          | (with_reducible refine T_icmp_geN (tgt := 92) (pc1 := 69) (pc := 66) k_M_ever_66 (by decide) (by decide) (by omega) (by omega) (fun hc => ?_) (fun hc => ?_) <;> first | (exfalso; omega) | skip)
          | refine T_icmp_ge_t (tgt := 92) (pc := 66) k_M_ever_66 rfl (by decide) ?_
          | refine T_icmp_ge_f (tgt := 92) (pc1 := 69) (pc := 66) k_M_ever_66 rfl rfl (by decide) ?_
          | refine T_icmp_ge (tgt := 92) (pc1 := 69) (pc := 66) k_M_ever_66 rfl rfl (fun hc => ?_) (fun hc => ?_)
          | refine T_iload (pc1 := 71) (pc := 69) k_M_ever_69 rfl rfl ?_
          | refine T_iconst (v := (nI 1)) (pc1 := 72) (pc := 71) k_M_ever_71 rfl (by decide) ?_
          | refine T_aload_n (pc1 := 73) (pc := 72) k_M_ever_72 rfl rfl ?_
          | refine T_aload_nN (pc1 := 73) (pc := 72) k_M_ever_72 rfl rfl ?_
          | refine T_getR (pc1 := 76) (pc := 73) k_M_ever_73 rfl f_M_9 rfl (by first | exact ga G (by decide) rfl | assumption) (by first | exact gr G (by decide) rfl | assumption) ?_
          | refine T_bipush (v := (nI 96)) (pc1 := 78) (pc := 76) k_M_ever_76 rfl (by decide) ?_
          | refine T_iload (pc1 := 80) (pc := 78) k_M_ever_78 rfl rfl ?_
          | with_reducible refine T_iaddN (pc1 := 81) (pc := 80) k_M_ever_80 (by decide) ?_
          | refine T_iadd (pc1 := 81) (pc := 80) k_M_ever_80 rfl ?_
          | refine T_ialdN (pc1 := 82) (pc := 81) k_M_ever_81 rfl (by first | exact ga G (by decide) rfl | assumption) (by omega) (by omega) (by first | assumption | (simp (disch := omega) only [pI_eq, pI_row, pI_col, va_up_self, va_up_ne, ne_eq, not_false_eq_true, hJN, h9, hbe] <;> rfl) | rfl) ?_
          | refine T_iald (pc1 := 82) (pc := 81) k_M_ever_81 rfl (by first | exact ga G (by decide) rfl | assumption) (by assumption) ?_
          | (refine T_ishl (pc1 := 83) (pc := 82) k_M_ever_82 rfl ?_; rw [shl_nI b (by omega)])
          | (refine T_ior (pc1 := 84) (pc := 83) k_M_ever_83 rfl ?_; rw [or_nI (by omega) (by omega)])
          | refine T_istore (pc1 := 86) (pc := 84) k_M_ever_84 rfl (Nat.le_of_ble_eq_true rfl) ?_
          | refine T_iincN (b := 1) (pc1 := 89) (pc := 86) k_M_ever_86 rfl rfl (by decide) ?_
          | refine T_iinc (v := (nI 1)) (pc1 := 89) (pc := 86) k_M_ever_86 rfl rfl (by decide) ?_
          | refine T_goto (tgt := 57) (pc := 89) k_M_ever_89 rfl ?_
          | refine T_iincN (b := 1) (pc1 := 95) (pc := 92) k_M_ever_92 rfl rfl (by decide) ?_
          | refine T_iinc (v := (nI 1)) (pc1 := 95) (pc := 92) k_M_ever_92 rfl rfl (by decide) ?_
          | refine T_goto (tgt := 41) (pc := 95) k_M_ever_95 rfl ?_
          | refine T_aload_n (pc1 := 99) (pc := 98) k_M_ever_98 rfl rfl ?_
          | refine T_aload_nN (pc1 := 99) (pc := 98) k_M_ever_98 rfl rfl ?_
          | refine T_iload (pc1 := 101) (pc := 99) k_M_ever_99 rfl rfl ?_
          | (refine T_cV (As := [_]) (d1 := 2) (pc1 := 104) (pc := 101) k_M_ever_101 rfl (by decide) (Nat.le_of_ble_eq_true rfl) rfl o_M_putBack l_M_183 rfl (by first | exact ga G (by decide) rfl | assumption) rfl (c_M_putBack G ?_) <;> try dsimp only [psh])
          | refine T_retI (pc := 104) k_M_ever_104 rfl (by first | rfl | decide | assumption) ?_)
        refine inner tr 0 k tr (evF N n tn fr to0 k) _ J2 (by omega) h60 hJ2N h9 hb (evF_lt ok hf ht k) (fun o => ?_)
        repeat' (first
          | refine T_iload_n (pc1 := 1) (pc := 0) k_M_ever_0 rfl rfl ?_
          | refine T_iload_n (pc1 := 2) (pc := 1) k_M_ever_1 rfl rfl ?_
          | (refine T_cS (As := [_, _]) (d1 := 3) (pc1 := 5) (pc := 2) k_M_ever_2 rfl (by decide) (Nat.le_of_ble_eq_true rfl) rfl o_M_areSpots l_M_107 rfl (c_M_areSpots (fun hw => ?_) (fun hw => ?_)) <;> try dsimp only [psh])
          | (with_reducible refine T_if_eqN (tgt := 18) (pc1 := 8) (pc := 5) k_M_ever_5 (by decide) (by decide) (by omega) (fun hc => ?_) (fun hc => ?_) <;> first | (exfalso; omega) | skip)
          | refine T_if_eq_t (tgt := 18) (pc := 5) k_M_ever_5 rfl (by decide) ?_
          | refine T_if_eq_f (tgt := 18) (pc1 := 8) (pc := 5) k_M_ever_5 rfl rfl (by decide) ?_
          | refine T_if_eq (tgt := 18) (pc1 := 8) (pc := 5) k_M_ever_5 rfl rfl (fun hc => ?_) (fun hc => ?_)
          | refine T_iload_n (pc1 := 9) (pc := 8) k_M_ever_8 rfl rfl ?_
          | refine T_iconst (v := (nI 1)) (pc1 := 10) (pc := 9) k_M_ever_9 rfl (by decide) ?_
          | refine T_bipush (v := (nI 40)) (pc1 := 12) (pc := 10) k_M_ever_10 rfl (by decide) ?_
          | (refine T_cS (As := [_, _, _]) (d1 := 1) (pc1 := 15) (pc := 12) k_M_ever_12 rfl (by decide) (Nat.le_of_ble_eq_true rfl) rfl o_M_within l_M_95 rfl (c_M_within (fun hw => ?_) (fun hw => ?_)) <;> try dsimp only [psh])
          | (with_reducible refine T_if_neN (tgt := 21) (pc1 := 18) (pc := 15) k_M_ever_15 (by decide) (by decide) (by omega) (fun hc => ?_) (fun hc => ?_) <;> first | (exfalso; omega) | skip)
          | refine T_if_ne_t (tgt := 21) (pc := 15) k_M_ever_15 rfl (by decide) ?_
          | refine T_if_ne_f (tgt := 21) (pc1 := 18) (pc := 15) k_M_ever_15 rfl rfl (by decide) ?_
          | refine T_if_ne (tgt := 21) (pc1 := 18) (pc := 15) k_M_ever_15 rfl rfl (fun hc => ?_) (fun hc => ?_)
          | refine T_ldc (v := (-1000000001)) (pc1 := 20) (pc := 18) k_M_ever_18 rfl c_M_111 ?_
          | refine T_retI (pc := 20) k_M_ever_20 rfl (by first | rfl | decide | assumption) ?_
          | refine T_aload_n (pc1 := 22) (pc := 21) k_M_ever_21 rfl rfl ?_
          | refine T_aload_nN (pc1 := 22) (pc := 21) k_M_ever_21 rfl rfl ?_
          | refine T_getR (pc1 := 25) (pc := 22) k_M_ever_22 rfl f_M_9 rfl (by first | exact ga G (by decide) rfl | assumption) (by first | exact gr G (by decide) rfl | assumption) ?_
          | refine T_aload_n (pc1 := 26) (pc := 25) k_M_ever_25 rfl rfl ?_
          | refine T_aload_nN (pc1 := 26) (pc := 25) k_M_ever_25 rfl rfl ?_
          | refine T_getR (pc1 := 29) (pc := 26) k_M_ever_26 rfl f_M_16 rfl (by first | exact ga G (by decide) rfl | assumption) (by first | exact gr G (by decide) rfl | assumption) ?_
          | refine T_sipush (v := (nI 156)) (pc1 := 32) (pc := 29) k_M_ever_29 rfl (by decide) ?_
          | (refine T_cS (As := [_, _, _]) (d1 := 1) (pc1 := 35) (pc := 32) k_M_ever_32 rfl (by decide) (Nat.le_of_ble_eq_true rfl) rfl o_M_copyRow l_M_91 rfl (c_M_copyRow (ga G (by decide) rfl) (ga G (by decide) rfl) (by omega) (by omega) (by omega) (by omega) (by decide) ?_) <;> try dsimp only [psh])
          | refine T_iconst (v := (nI 0)) (pc1 := 36) (pc := 35) k_M_ever_35 rfl (by decide) ?_
          | refine T_istore (pc1 := 38) (pc := 36) k_M_ever_36 rfl (Nat.le_of_ble_eq_true rfl) ?_
          | refine T_iconst (v := (nI 0)) (pc1 := 39) (pc := 38) k_M_ever_38 rfl (by decide) ?_
          | refine T_istore (pc1 := 41) (pc := 39) k_M_ever_39 rfl (Nat.le_of_ble_eq_true rfl) ?_
          | refine T_iload_n (pc1 := 44) (pc := 43) k_M_ever_43 rfl rfl ?_
          | (with_reducible refine T_icmp_geN (tgt := 98) (pc1 := 47) (pc := 44) k_M_ever_44 (by decide) (by decide) (by omega) (by omega) (fun hc => ?_) (fun hc => ?_) <;> first | (exfalso; omega) | skip)
          | refine T_icmp_ge_t (tgt := 98) (pc := 44) k_M_ever_44 rfl (by decide) ?_
          | refine T_icmp_ge_f (tgt := 98) (pc1 := 47) (pc := 44) k_M_ever_44 rfl rfl (by decide) ?_
          | refine T_icmp_ge (tgt := 98) (pc1 := 47) (pc := 44) k_M_ever_44 rfl rfl (fun hc => ?_) (fun hc => ?_)
          | refine T_aload_n (pc1 := 48) (pc := 47) k_M_ever_47 rfl rfl ?_
          | refine T_aload_nN (pc1 := 48) (pc := 47) k_M_ever_47 rfl rfl ?_
          | refine T_iload_n (pc1 := 49) (pc := 48) k_M_ever_48 rfl rfl ?_
          | refine T_iload_n (pc1 := 50) (pc := 49) k_M_ever_49 rfl rfl ?_
          | (refine T_cV (As := [_, _]) (d1 := 5) (pc1 := 53) (pc := 50) k_M_ever_50 rfl (by decide) (Nat.le_of_ble_eq_true rfl) rfl o_M_walks l_M_174 rfl (by first | exact ga G (by decide) rfl | assumption) rfl (c_M_walks G hJN ok1 hf ht (fun J2 hJ2 hJ2N => ?_)) <;> try dsimp only [psh])
          | refine T_pop (pc1 := 54) (pc := 53) k_M_ever_53 rfl rfl ?_
          | refine T_iconst (v := (nI 0)) (pc1 := 55) (pc := 54) k_M_ever_54 rfl (by decide) ?_
          | refine T_istore (pc1 := 57) (pc := 55) k_M_ever_55 rfl (Nat.le_of_ble_eq_true rfl) ?_
          | refine T_iload (pc1 := 59) (pc := 57) k_M_ever_57 rfl rfl ?_
          | refine T_aload_n (pc1 := 60) (pc := 59) k_M_ever_59 rfl rfl ?_
          | refine T_aload_nN (pc1 := 60) (pc := 59) k_M_ever_59 rfl rfl ?_
          | refine T_getR (pc1 := 63) (pc := 60) k_M_ever_60 rfl f_M_9 rfl (by first | exact ga G (by decide) rfl | assumption) (by first | exact gr G (by decide) rfl | assumption) ?_
          | refine T_bipush (v := (nI 9)) (pc1 := 65) (pc := 63) k_M_ever_63 rfl (by decide) ?_
          | refine T_ialdN (pc1 := 66) (pc := 65) k_M_ever_65 rfl (by first | exact ga G (by decide) rfl | assumption) (by omega) (by omega) (by first | assumption | (simp (disch := omega) only [pI_eq, pI_row, pI_col, va_up_self, va_up_ne, ne_eq, not_false_eq_true, hJN, h9, hbe] <;> rfl) | rfl) ?_
          | refine T_iald (pc1 := 66) (pc := 65) k_M_ever_65 rfl (by first | exact ga G (by decide) rfl | assumption) (by assumption) ?_
          | (with_reducible refine T_icmp_geN (tgt := 92) (pc1 := 69) (pc := 66) k_M_ever_66 (by decide) (by decide) (by omega) (by omega) (fun hc => ?_) (fun hc => ?_) <;> first | (exfalso; omega) | skip)
          | refine T_icmp_ge_t (tgt := 92) (pc := 66) k_M_ever_66 rfl (by decide) ?_
          | refine T_icmp_ge_f (tgt := 92) (pc1 := 69) (pc := 66) k_M_ever_66 rfl rfl (by decide) ?_
          | refine T_icmp_ge (tgt := 92) (pc1 := 69) (pc := 66) k_M_ever_66 rfl rfl (fun hc => ?_) (fun hc => ?_)
          | refine T_iload (pc1 := 71) (pc := 69) k_M_ever_69 rfl rfl ?_
          | refine T_iconst (v := (nI 1)) (pc1 := 72) (pc := 71) k_M_ever_71 rfl (by decide) ?_
          | refine T_aload_n (pc1 := 73) (pc := 72) k_M_ever_72 rfl rfl ?_
          | refine T_aload_nN (pc1 := 73) (pc := 72) k_M_ever_72 rfl rfl ?_
          | refine T_getR (pc1 := 76) (pc := 73) k_M_ever_73 rfl f_M_9 rfl (by first | exact ga G (by decide) rfl | assumption) (by first | exact gr G (by decide) rfl | assumption) ?_
          | refine T_bipush (v := (nI 96)) (pc1 := 78) (pc := 76) k_M_ever_76 rfl (by decide) ?_
          | refine T_iload (pc1 := 80) (pc := 78) k_M_ever_78 rfl rfl ?_
          | with_reducible refine T_iaddN (pc1 := 81) (pc := 80) k_M_ever_80 (by decide) ?_
          | refine T_iadd (pc1 := 81) (pc := 80) k_M_ever_80 rfl ?_
          | refine T_ialdN (pc1 := 82) (pc := 81) k_M_ever_81 rfl (by first | exact ga G (by decide) rfl | assumption) (by omega) (by omega) (by first | assumption | (simp (disch := omega) only [pI_eq, pI_row, pI_col, va_up_self, va_up_ne, ne_eq, not_false_eq_true, hJN, h9, hbe] <;> rfl) | rfl) ?_
          | refine T_iald (pc1 := 82) (pc := 81) k_M_ever_81 rfl (by first | exact ga G (by decide) rfl | assumption) (by assumption) ?_
          | (refine T_ishl (pc1 := 83) (pc := 82) k_M_ever_82 rfl ?_; rw [shl_nI b (by omega)])
          | (refine T_ior (pc1 := 84) (pc := 83) k_M_ever_83 rfl ?_; rw [or_nI (by omega) (by omega)])
          | refine T_istore (pc1 := 86) (pc := 84) k_M_ever_84 rfl (Nat.le_of_ble_eq_true rfl) ?_
          | refine T_iincN (b := 1) (pc1 := 89) (pc := 86) k_M_ever_86 rfl rfl (by decide) ?_
          | refine T_iinc (v := (nI 1)) (pc1 := 89) (pc := 86) k_M_ever_86 rfl rfl (by decide) ?_
          | refine T_goto (tgt := 57) (pc := 89) k_M_ever_89 rfl ?_
          | refine T_iincN (b := 1) (pc1 := 95) (pc := 92) k_M_ever_92 rfl rfl (by decide) ?_
          | refine T_iinc (v := (nI 1)) (pc1 := 95) (pc := 92) k_M_ever_92 rfl rfl (by decide) ?_
          | refine T_goto (tgt := 41) (pc := 95) k_M_ever_95 rfl ?_
          | refine T_aload_n (pc1 := 99) (pc := 98) k_M_ever_98 rfl rfl ?_
          | refine T_aload_nN (pc1 := 99) (pc := 98) k_M_ever_98 rfl rfl ?_
          | refine T_iload (pc1 := 101) (pc := 99) k_M_ever_99 rfl rfl ?_
          | (refine T_cV (As := [_]) (d1 := 2) (pc1 := 104) (pc := 101) k_M_ever_101 rfl (by decide) (Nat.le_of_ble_eq_true rfl) rfl o_M_putBack l_M_183 rfl (by first | exact ga G (by decide) rfl | assumption) rfl (c_M_putBack G ?_) <;> try dsimp only [psh])
          | refine T_retI (pc := 104) k_M_ever_104 rfl (by first | rfl | decide | assumption) ?_)
        exact ih _ J2 (by omega) (eqx_tr hJ (eqx_mono hJ2 (by decide))) ((hJ2 104 (by decide)).trans h104) hJ2N
    repeat' (first
      | refine T_iload_n (pc1 := 1) (pc := 0) k_M_ever_0 rfl rfl ?_
      | refine T_iload_n (pc1 := 2) (pc := 1) k_M_ever_1 rfl rfl ?_
      | (refine T_cS (As := [_, _]) (d1 := 3) (pc1 := 5) (pc := 2) k_M_ever_2 rfl (by decide) (Nat.le_of_ble_eq_true rfl) rfl o_M_areSpots l_M_107 rfl (c_M_areSpots (fun hw => ?_) (fun hw => ?_)) <;> try dsimp only [psh])
      | (with_reducible refine T_if_eqN (tgt := 18) (pc1 := 8) (pc := 5) k_M_ever_5 (by decide) (by decide) (by omega) (fun hc => ?_) (fun hc => ?_) <;> first | (exfalso; omega) | skip)
      | refine T_if_eq_t (tgt := 18) (pc := 5) k_M_ever_5 rfl (by decide) ?_
      | refine T_if_eq_f (tgt := 18) (pc1 := 8) (pc := 5) k_M_ever_5 rfl rfl (by decide) ?_
      | refine T_if_eq (tgt := 18) (pc1 := 8) (pc := 5) k_M_ever_5 rfl rfl (fun hc => ?_) (fun hc => ?_)
      | refine T_iload_n (pc1 := 9) (pc := 8) k_M_ever_8 rfl rfl ?_
      | refine T_iconst (v := (nI 1)) (pc1 := 10) (pc := 9) k_M_ever_9 rfl (by decide) ?_
      | refine T_bipush (v := (nI 40)) (pc1 := 12) (pc := 10) k_M_ever_10 rfl (by decide) ?_
      | (refine T_cS (As := [_, _, _]) (d1 := 1) (pc1 := 15) (pc := 12) k_M_ever_12 rfl (by decide) (Nat.le_of_ble_eq_true rfl) rfl o_M_within l_M_95 rfl (c_M_within (fun hw => ?_) (fun hw => ?_)) <;> try dsimp only [psh])
      | (with_reducible refine T_if_neN (tgt := 21) (pc1 := 18) (pc := 15) k_M_ever_15 (by decide) (by decide) (by omega) (fun hc => ?_) (fun hc => ?_) <;> first | (exfalso; omega) | skip)
      | refine T_if_ne_t (tgt := 21) (pc := 15) k_M_ever_15 rfl (by decide) ?_
      | refine T_if_ne_f (tgt := 21) (pc1 := 18) (pc := 15) k_M_ever_15 rfl rfl (by decide) ?_
      | refine T_if_ne (tgt := 21) (pc1 := 18) (pc := 15) k_M_ever_15 rfl rfl (fun hc => ?_) (fun hc => ?_)
      | refine T_ldc (v := (-1000000001)) (pc1 := 20) (pc := 18) k_M_ever_18 rfl c_M_111 ?_
      | refine T_retI (pc := 20) k_M_ever_20 rfl (by first | rfl | decide | assumption) ?_
      | refine T_aload_n (pc1 := 22) (pc := 21) k_M_ever_21 rfl rfl ?_
      | refine T_aload_nN (pc1 := 22) (pc := 21) k_M_ever_21 rfl rfl ?_
      | refine T_getR (pc1 := 25) (pc := 22) k_M_ever_22 rfl f_M_9 rfl (by first | exact ga G (by decide) rfl | assumption) (by first | exact gr G (by decide) rfl | assumption) ?_
      | refine T_aload_n (pc1 := 26) (pc := 25) k_M_ever_25 rfl rfl ?_
      | refine T_aload_nN (pc1 := 26) (pc := 25) k_M_ever_25 rfl rfl ?_
      | refine T_getR (pc1 := 29) (pc := 26) k_M_ever_26 rfl f_M_16 rfl (by first | exact ga G (by decide) rfl | assumption) (by first | exact gr G (by decide) rfl | assumption) ?_
      | refine T_sipush (v := (nI 156)) (pc1 := 32) (pc := 29) k_M_ever_29 rfl (by decide) ?_
      | (refine T_cS (As := [_, _, _]) (d1 := 1) (pc1 := 35) (pc := 32) k_M_ever_32 rfl (by decide) (Nat.le_of_ble_eq_true rfl) rfl o_M_copyRow l_M_91 rfl (c_M_copyRow (ga G (by decide) rfl) (ga G (by decide) rfl) (by omega) (by omega) (by omega) (by omega) (by decide) ?_) <;> try dsimp only [psh])
      | refine T_iconst (v := (nI 0)) (pc1 := 36) (pc := 35) k_M_ever_35 rfl (by decide) ?_
      | refine T_istore (pc1 := 38) (pc := 36) k_M_ever_36 rfl (Nat.le_of_ble_eq_true rfl) ?_
      | refine T_iconst (v := (nI 0)) (pc1 := 39) (pc := 38) k_M_ever_38 rfl (by decide) ?_
      | refine T_istore (pc1 := 41) (pc := 39) k_M_ever_39 rfl (Nat.le_of_ble_eq_true rfl) ?_
      | refine T_iload_n (pc1 := 44) (pc := 43) k_M_ever_43 rfl rfl ?_
      | (with_reducible refine T_icmp_geN (tgt := 98) (pc1 := 47) (pc := 44) k_M_ever_44 (by decide) (by decide) (by omega) (by omega) (fun hc => ?_) (fun hc => ?_) <;> first | (exfalso; omega) | skip)
      | refine T_icmp_ge_t (tgt := 98) (pc := 44) k_M_ever_44 rfl (by decide) ?_
      | refine T_icmp_ge_f (tgt := 98) (pc1 := 47) (pc := 44) k_M_ever_44 rfl rfl (by decide) ?_
      | refine T_icmp_ge (tgt := 98) (pc1 := 47) (pc := 44) k_M_ever_44 rfl rfl (fun hc => ?_) (fun hc => ?_)
      | refine T_aload_n (pc1 := 48) (pc := 47) k_M_ever_47 rfl rfl ?_
      | refine T_aload_nN (pc1 := 48) (pc := 47) k_M_ever_47 rfl rfl ?_
      | refine T_iload_n (pc1 := 49) (pc := 48) k_M_ever_48 rfl rfl ?_
      | refine T_iload_n (pc1 := 50) (pc := 49) k_M_ever_49 rfl rfl ?_
      | (refine T_cV (As := [_, _]) (d1 := 5) (pc1 := 53) (pc := 50) k_M_ever_50 rfl (by decide) (Nat.le_of_ble_eq_true rfl) rfl o_M_walks l_M_174 rfl (by first | exact ga G (by decide) rfl | assumption) rfl (c_M_walks G hJN ok1 hf ht (fun J2 hJ2 hJ2N => ?_)) <;> try dsimp only [psh])
      | refine T_pop (pc1 := 54) (pc := 53) k_M_ever_53 rfl rfl ?_
      | refine T_iconst (v := (nI 0)) (pc1 := 55) (pc := 54) k_M_ever_54 rfl (by decide) ?_
      | refine T_istore (pc1 := 57) (pc := 55) k_M_ever_55 rfl (Nat.le_of_ble_eq_true rfl) ?_
      | refine T_iload (pc1 := 59) (pc := 57) k_M_ever_57 rfl rfl ?_
      | refine T_aload_n (pc1 := 60) (pc := 59) k_M_ever_59 rfl rfl ?_
      | refine T_aload_nN (pc1 := 60) (pc := 59) k_M_ever_59 rfl rfl ?_
      | refine T_getR (pc1 := 63) (pc := 60) k_M_ever_60 rfl f_M_9 rfl (by first | exact ga G (by decide) rfl | assumption) (by first | exact gr G (by decide) rfl | assumption) ?_
      | refine T_bipush (v := (nI 9)) (pc1 := 65) (pc := 63) k_M_ever_63 rfl (by decide) ?_
      | refine T_ialdN (pc1 := 66) (pc := 65) k_M_ever_65 rfl (by first | exact ga G (by decide) rfl | assumption) (by omega) (by omega) (by first | assumption | (simp (disch := omega) only [pI_eq, pI_row, pI_col, va_up_self, va_up_ne, ne_eq, not_false_eq_true, hJN, h9, hbe] <;> rfl) | rfl) ?_
      | refine T_iald (pc1 := 66) (pc := 65) k_M_ever_65 rfl (by first | exact ga G (by decide) rfl | assumption) (by assumption) ?_
      | (with_reducible refine T_icmp_geN (tgt := 92) (pc1 := 69) (pc := 66) k_M_ever_66 (by decide) (by decide) (by omega) (by omega) (fun hc => ?_) (fun hc => ?_) <;> first | (exfalso; omega) | skip)
      | refine T_icmp_ge_t (tgt := 92) (pc := 66) k_M_ever_66 rfl (by decide) ?_
      | refine T_icmp_ge_f (tgt := 92) (pc1 := 69) (pc := 66) k_M_ever_66 rfl rfl (by decide) ?_
      | refine T_icmp_ge (tgt := 92) (pc1 := 69) (pc := 66) k_M_ever_66 rfl rfl (fun hc => ?_) (fun hc => ?_)
      | refine T_iload (pc1 := 71) (pc := 69) k_M_ever_69 rfl rfl ?_
      | refine T_iconst (v := (nI 1)) (pc1 := 72) (pc := 71) k_M_ever_71 rfl (by decide) ?_
      | refine T_aload_n (pc1 := 73) (pc := 72) k_M_ever_72 rfl rfl ?_
      | refine T_aload_nN (pc1 := 73) (pc := 72) k_M_ever_72 rfl rfl ?_
      | refine T_getR (pc1 := 76) (pc := 73) k_M_ever_73 rfl f_M_9 rfl (by first | exact ga G (by decide) rfl | assumption) (by first | exact gr G (by decide) rfl | assumption) ?_
      | refine T_bipush (v := (nI 96)) (pc1 := 78) (pc := 76) k_M_ever_76 rfl (by decide) ?_
      | refine T_iload (pc1 := 80) (pc := 78) k_M_ever_78 rfl rfl ?_
      | with_reducible refine T_iaddN (pc1 := 81) (pc := 80) k_M_ever_80 (by decide) ?_
      | refine T_iadd (pc1 := 81) (pc := 80) k_M_ever_80 rfl ?_
      | refine T_ialdN (pc1 := 82) (pc := 81) k_M_ever_81 rfl (by first | exact ga G (by decide) rfl | assumption) (by omega) (by omega) (by first | assumption | (simp (disch := omega) only [pI_eq, pI_row, pI_col, va_up_self, va_up_ne, ne_eq, not_false_eq_true, hJN, h9, hbe] <;> rfl) | rfl) ?_
      | refine T_iald (pc1 := 82) (pc := 81) k_M_ever_81 rfl (by first | exact ga G (by decide) rfl | assumption) (by assumption) ?_
      | (refine T_ishl (pc1 := 83) (pc := 82) k_M_ever_82 rfl ?_; rw [shl_nI b (by omega)])
      | (refine T_ior (pc1 := 84) (pc := 83) k_M_ever_83 rfl ?_; rw [or_nI (by omega) (by omega)])
      | refine T_istore (pc1 := 86) (pc := 84) k_M_ever_84 rfl (Nat.le_of_ble_eq_true rfl) ?_
      | refine T_iincN (b := 1) (pc1 := 89) (pc := 86) k_M_ever_86 rfl rfl (by decide) ?_
      | refine T_iinc (v := (nI 1)) (pc1 := 89) (pc := 86) k_M_ever_86 rfl rfl (by decide) ?_
      | refine T_goto (tgt := 57) (pc := 89) k_M_ever_89 rfl ?_
      | refine T_iincN (b := 1) (pc1 := 95) (pc := 92) k_M_ever_92 rfl rfl (by decide) ?_
      | refine T_iinc (v := (nI 1)) (pc1 := 95) (pc := 92) k_M_ever_92 rfl rfl (by decide) ?_
      | refine T_goto (tgt := 41) (pc := 95) k_M_ever_95 rfl ?_
      | refine T_aload_n (pc1 := 99) (pc := 98) k_M_ever_98 rfl rfl ?_
      | refine T_aload_nN (pc1 := 99) (pc := 98) k_M_ever_98 rfl rfl ?_
      | refine T_iload (pc1 := 101) (pc := 99) k_M_ever_99 rfl rfl ?_
      | (refine T_cV (As := [_]) (d1 := 2) (pc1 := 104) (pc := 101) k_M_ever_101 rfl (by decide) (Nat.le_of_ble_eq_true rfl) rfl o_M_putBack l_M_183 rfl (by first | exact ga G (by decide) rfl | assumption) rfl (c_M_putBack G ?_) <;> try dsimp only [psh])
      | refine T_retI (pc := 104) k_M_ever_104 rfl (by first | rfl | decide | assumption) ?_)
    all_goals try (exfalso; exact hw hok.1)
    all_goals try (exfalso; apply hw; constructor <;> omega)
    refine outer x 0 _ _ (by omega) (eqx_up eqx_rf _ (by decide)) ?_ ?_
    · rw [va_up_self, hN]
    · rw [va_up_ne _ _ (by decide)]; exact hN
  · rw [everA, if_neg hok] at kk
    repeat' (first
      | refine T_iload_n (pc1 := 1) (pc := 0) k_M_ever_0 rfl rfl ?_
      | refine T_iload_n (pc1 := 2) (pc := 1) k_M_ever_1 rfl rfl ?_
      | (refine T_cS (As := [_, _]) (d1 := 3) (pc1 := 5) (pc := 2) k_M_ever_2 rfl (by decide) (Nat.le_of_ble_eq_true rfl) rfl o_M_areSpots l_M_107 rfl (c_M_areSpots (fun hw => ?_) (fun hw => ?_)) <;> try dsimp only [psh])
      | (with_reducible refine T_if_eqN (tgt := 18) (pc1 := 8) (pc := 5) k_M_ever_5 (by decide) (by decide) (by omega) (fun hc => ?_) (fun hc => ?_) <;> first | (exfalso; omega) | skip)
      | refine T_if_eq_t (tgt := 18) (pc := 5) k_M_ever_5 rfl (by decide) ?_
      | refine T_if_eq_f (tgt := 18) (pc1 := 8) (pc := 5) k_M_ever_5 rfl rfl (by decide) ?_
      | refine T_if_eq (tgt := 18) (pc1 := 8) (pc := 5) k_M_ever_5 rfl rfl (fun hc => ?_) (fun hc => ?_)
      | refine T_iload_n (pc1 := 9) (pc := 8) k_M_ever_8 rfl rfl ?_
      | refine T_iconst (v := (nI 1)) (pc1 := 10) (pc := 9) k_M_ever_9 rfl (by decide) ?_
      | refine T_bipush (v := (nI 40)) (pc1 := 12) (pc := 10) k_M_ever_10 rfl (by decide) ?_
      | (refine T_cS (As := [_, _, _]) (d1 := 1) (pc1 := 15) (pc := 12) k_M_ever_12 rfl (by decide) (Nat.le_of_ble_eq_true rfl) rfl o_M_within l_M_95 rfl (c_M_within (fun hw => ?_) (fun hw => ?_)) <;> try dsimp only [psh])
      | (with_reducible refine T_if_neN (tgt := 21) (pc1 := 18) (pc := 15) k_M_ever_15 (by decide) (by decide) (by omega) (fun hc => ?_) (fun hc => ?_) <;> first | (exfalso; omega) | skip)
      | refine T_if_ne_t (tgt := 21) (pc := 15) k_M_ever_15 rfl (by decide) ?_
      | refine T_if_ne_f (tgt := 21) (pc1 := 18) (pc := 15) k_M_ever_15 rfl rfl (by decide) ?_
      | refine T_if_ne (tgt := 21) (pc1 := 18) (pc := 15) k_M_ever_15 rfl rfl (fun hc => ?_) (fun hc => ?_)
      | refine T_ldc (v := (-1000000001)) (pc1 := 20) (pc := 18) k_M_ever_18 rfl c_M_111 ?_
      | refine T_retI (pc := 20) k_M_ever_20 rfl (by first | rfl | decide | assumption) ?_)
    all_goals first | exact kk _ _ eqx_rf rfl | (exfalso; exact hok ⟨by assumption, by constructor <;> omega⟩)
end M12
