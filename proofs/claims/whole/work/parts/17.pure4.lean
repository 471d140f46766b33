/-! Walks, the pure side. -/
section PU4
theorem or_nI {a b : Nat} (ha : a < 2 ^ 31) (hb : b < 2 ^ 31) : nI a ||| nI b = nI (a ||| b) := by
  have hab : a ||| b < 2 ^ 31 := Nat.or_lt_two_pow ha hb
  exact Int32.toBitVec_inj.mp (BitVec.eq_of_toNat_eq (by rw [Int32.toBitVec_or, BitVec.toNat_or, pk_tn (by omega), pk_tn (by omega), pk_tn (by omega)]))
theorem shl_nI : ∀ b, b < 14 → nI 1 <<< (nI b &&& 31) = nI (2 ^ b) := by decide +kernel
theorem smod_nI : ∀ b, b < 14 → ((nI b &&& 31).toBitVec.smod 32).toNat = b := by decide +kernel
theorem tst_nI {F b : Nat} (hF : F < 2 ^ 31) (hb : b < 14) : (nI F >>> (nI b &&& 31)) &&& nI 1 = nI (F / 2 ^ b % 2) := by
  rw [pk_shrN hF _ b (smod_nI b hb), pk_andN (Nat.lt_of_le_of_lt (Nat.div_le_self _ _) (by omega)) 1 (by decide)]
def ed (N : Row) (b : Nat) : Nat × Nat := ((bf N b 1).toNatClampNeg, (bf N b 2).toNatClampNeg)
def thk (N : Row) (tn b : Nat) : Nat := (thI N tn b).toNatClampNeg
def tkk (N : Row) (tn b : Nat) : Nat := (tkI N tn b).toNatClampNeg
theorem okL_E {N : Row} {n tn : Nat} (ok : okL N n tn) : okE (ed N) n := by
  intro b hb
  obtain ⟨k, o, t, l, r, -, -, h1, ho, h2, ht, hne, -⟩ := ok.2.2.2.2.1 b hb
  unfold ed
  rw [h1, h2, nI_clamp (by omega), nI_clamp (by omega)]
  exact ⟨ho, ht, hne⟩
theorem thk_eq {N : Row} {n tn b : Nat} (ok : okL N n tn) (hb : b < n) : thI N tn b = nI (thk N tn b) ∧ 1 ≤ thk N tn b ∧ thk N tn b ≤ 999 := by
  have key : ∃ j, 1 ≤ j ∧ j ≤ 999 ∧ thI N tn b = nI j := by
    unfold thI
    cases txt N 1 tn with
    | none =>
      obtain ⟨gs, h1, h2, h3⟩ := ok.2.2.2.2.2.2.2
      by_cases c : bf N b 5 = cNONE
      · exact ⟨gs, h2, by omega, by rw [if_pos c]; exact h1⟩
      · obtain ⟨j, a, b1, e⟩ := hld_bt (lo := 1) (hi := 999) (by decide) (by decide) (bf N b 5)
        exact ⟨j, a, b1, by rw [if_neg c]; exact e⟩
    | some t => exact hld_bt (lo := 1) (hi := 999) (by decide) (by decide) _
  obtain ⟨j, a, b1, e⟩ := key
  have : thk N tn b = j := by unfold thk; rw [e, nI_clamp (by omega)]
  rw [this]
  exact ⟨e, a, b1⟩
theorem pln_eq {N : Row} {n tn b : Nat} (ok : okL N n tn) (hb : b < n) : ∃ j, 1 ≤ j ∧ j ≤ 999 ∧ pln N tn b = nI j := by
  unfold pln
  cases txt N 0 tn with
  | none =>
    obtain ⟨k, o, t, l, r, -, -, -, -, -, -, -, h3, hl1, hl2, -⟩ := ok.2.2.2.2.1 b hb
    exact ⟨l, hl1, by omega, h3⟩
  | some t => exact hld_bt (lo := 1) (hi := 999) (by decide) (by decide) _
theorem sub_le0 {j r : Nat} (h : j ≤ r) (hj : j < 2147483648) (hr : r < 1073741824) : (nI j - nI r).toInt ≤ 0 ∨ (nI j - nI r) = nI 0 := by
  by_cases h1 : j = r
  · subst h1; exact Or.inr (by rw [pk_sub (Nat.le_refl _), Nat.sub_self])
  · have := pk_sneg (a := j) (b := r) hr (by omega)
    rw [lt_toInt] at this
    have e0 : (0 : Int32).toInt = 0 := rfl
    exact Or.inl (by omega)
theorem jmax_sub {j r : Nat} (hj : j < 1073741824) (hr : r < 1073741824) : jmax (nI 1) (nI j - nI r) = nI (max 1 (j - r)) := by
  unfold jmax
  by_cases h : r < j
  · rw [pk_sub (by omega)]
    by_cases h2 : nI 1 < nI (j - r)
    · rw [if_pos h2]
      have := (nI_ltI (by decide) (by omega)).mp h2
      rw [Nat.max_eq_right (by omega)]
    · rw [if_neg h2]
      have : ¬ 1 < j - r := fun q => h2 ((nI_ltI (by decide) (by omega)).mpr q)
      rw [show max 1 (j - r) = 1 by omega]
  · have hn : ¬ nI 1 < nI j - nI r := by
      rw [lt_toInt]
      have e1 : (nI 1).toInt = 1 := rfl
      rcases sub_le0 (j := j) (r := r) (by omega) (by omega) hr with q | q
      · omega
      · rw [q]; decide
    rw [if_neg hn, show max 1 (j - r) = 1 by omega]
theorem tkk_eq {N : Row} {n tn b : Nat} (ok : okL N n tn) (hb : b < n) : tkI N tn b = nI (tkk N tn b) ∧ 1 ≤ tkk N tn b ∧ tkk N tn b ≤ 1998 := by
  have key : ∃ j, 1 ≤ j ∧ j ≤ 1998 ∧ tkI N tn b = nI j := by
    obtain ⟨k, o, t, l, r, h0, hk, -, -, -, -, -, h3, hl1, hl2, h4, hr, -⟩ := ok.2.2.2.2.1 b hb
    obtain ⟨p, hp1, hp2, hp⟩ := pln_eq ok hb
    have jm := jmax_sub (j := p) (r := r) (by omega) (by omega)
    unfold tkI
    rw [h0, h3, h4, hp, nI_clamp (by omega)]
    have hw : ∃ j, 1 ≤ j ∧ j ≤ 1998 ∧ (if N 3 = nI 1 then nI 2 * nI p else nI p) = nI j := by
      by_cases c : N 3 = nI 1
      · exact ⟨2 * p, by omega, by omega, by rw [if_pos c, pk_mul]⟩
      · exact ⟨p, by omega, by omega, by rw [if_neg c]⟩
    obtain rfl | rfl | rfl | rfl | rfl | rfl : k = 0 ∨ k = 1 ∨ k = 2 ∨ k = 3 ∨ k = 4 ∨ k = 5 := by omega
    · exact ⟨p, hp1, by omega, rfl⟩
    · exact ⟨max 1 (p - r), by omega, by omega, jm⟩
    · exact hw
    · refine ⟨max 1 (max 1 (p - r) / 2), by omega, by omega, ?_⟩
      show jmax (nI 1) (jmax (nI 1) (nI p - nI r) / nI 2) = _
      rw [jm, pk_div (by omega) (by decide) (by decide), jmax_nI (by decide) (by omega)]
    · exact hw
    · exact ⟨l, hl1, by omega, rfl⟩
  obtain ⟨j, a, b1, e⟩ := key
  have : tkk N tn b = j := by unfold tkk; rw [e, nI_clamp (by omega)]
  rw [this]
  exact ⟨e, a, b1⟩
/-- the costs as they are thought, but for what was found barred -/
def cst (N : Row) (tn F b : Nat) : Nat := if F / 2 ^ b % 2 = 1 then 0 else thk N tn b
def oe (N : Row) (b at0 : Nat) : Nat := if (ed N b).1 = at0 then (ed N b).2 else (ed N b).1
/-- bit b begins a least way -/
def fbP (e : Nat → Nat × Nat) (c D : Nf) (at0 b : Nat) : Bool := decide (c b ≠ 0) && ((decide ((e b).1 = at0) && decide (D (e b).2 + c b = D at0)) || (decide ((e b).1 ≠ at0) && decide ((e b).2 = at0) && decide (D (e b).1 + c b = D at0)))
def nxt (N : Row) (n : Nat) (c : Nf) (at0 to0 : Nat) : Option Nat := if dst (ed N) c n to0 at0 < 1000000 then lsq (fbP (ed N) c (dst (ed N) c n to0) at0) 0 n else none
def goN (N : Row) (tn b tr : Nat) : Row := va_up (va_up (va_up N (96 + tr) (nI b)) (12 + 6 * b + 5) (nI (min 999 (tkk N tn b)))) (12 + 6 * b + 4) (jmin (nI 999) (bf N b 4 + nI 1))
/-- where, how, minutes, tries, the row -/
abbrev WR : Type := Nat × Nat × Nat × Nat × Row
def wkf (n tn to0 : Nat) : Nat → Nat → Nat → Nat → Nat → Row → WR
  | 0, at0, _, mi, tr, N => (at0, 0, mi, tr, N)
  | k + 1, at0, F, mi, tr, N => if at0 = to0 then (at0, 0, mi, tr, N) else match nxt N n (cst N tn F) at0 to0 with
    | none => (at0, 1, mi, tr, N)
    | some b => if tr = 60 then (at0, 2, mi, tr, N) else if brd N b = true then wkf n tn to0 k at0 (F ||| 2 ^ b) (mi + 1) (tr + 1) (va_up N (96 + tr) (nI b)) else wkf n tn to0 k (oe N b at0) F (mi + tkk N tn b) (tr + 1) (goN N tn b tr)
def wkE (w : WR) : Row := va_up (va_up (va_up (va_up (va_up (va_up (va_up w.2.2.2.2 7 (nI 1)) 8 (nI w.2.2.1)) 9 (nI w.2.2.2.1)) 10 (nI w.1)) 11 (nI w.2.1)) 1 (w.2.2.2.2 1 + nI 1)) 2 (w.2.2.2.2 2 + nI w.2.2.1)
def wkW (N : Row) (n tn fr to0 : Nat) : WR := wkf n tn to0 61 fr 0 0 0 N
def wkM (N : Row) (n tn fr to0 : Nat) : Nat := (wkW N n tn fr to0).2.2.1
def wkN (N : Row) (n tn fr to0 : Nat) : Row := wkE (wkW N n tn fr to0)
end PU4
