/-! A text is read: the pure side. -/
section PU15
def byA (T : Row) (z k : Nat) : Int32 := if k < z then T k else -1
def sOf (v : Int32) : Nat := if v.toInt < 0 then 0 else if 97 ≤ v.toInt ∧ v.toInt ≤ 122 then 1 else if 48 ≤ v.toInt ∧ v.toInt ≤ 57 then 2 else 3
/-- the sort of what lies at k -/
def srt (T : Row) (z k : Nat) : Nat := sOf (byA T z k)
def okTp (T : Row) (z : Nat) : Prop := z ≤ 96 ∧ ∀ k, k < z → rg 256 (T k)
theorem srt_le (T : Row) (z k : Nat) : srt T z k ≤ 3 := by
  unfold srt sOf
  split
  · omega
  · split
    · omega
    · split <;> omega
theorem srt_0 {T : Row} {z k : Nat} (h : okTp T z) : srt T z k = 0 ↔ ¬ k < z := by
  unfold srt byA
  by_cases c : k < z
  · rw [if_pos c]
    have := (h.2 k c).1
    unfold sOf
    rw [if_neg (by omega)]
    constructor
    · intro q
      split at q
      · omega
      · split at q <;> omega
    · intro q; exact absurd c q
  · rw [if_neg c]
    exact ⟨fun _ => c, fun _ => rfl⟩
def skp (T : Row) : Nat → Nat → Nat
  | 0, k => k
  | f + 1, k => if T k = nI 32 then skp T f (k + 1) else k
theorem skp_b {T : Row} : ∀ f k, k ≤ skp T f k ∧ skp T f k ≤ k + f
  | 0, k => ⟨Nat.le_refl _, Nat.le_refl _⟩
  | f + 1, k => by
    unfold skp
    have := skp_b (T := T) f (k + 1)
    split <;> omega
def rn1 (T : Row) (z so : Nat) : Nat → Nat → Nat
  | 0, k => k
  | f + 1, k => if srt T z k = so then rn1 T z so f (k + 1) else k
theorem rn1_b {T : Row} {z so : Nat} : ∀ f k, (k ≤ rn1 T z so f k ∧ rn1 T z so f k ≤ k + f) ∧ ∀ j, k ≤ j → j < rn1 T z so f k → srt T z j = so
  | 0, k => ⟨⟨Nat.le_refl _, Nat.le_refl _⟩, fun j h1 h2 => by unfold rn1 at h2; omega⟩
  | f + 1, k => by
    unfold rn1
    have ih := rn1_b (T := T) (z := z) (so := so) f (k + 1)
    by_cases c : srt T z k = so
    · rw [if_pos c]
      refine ⟨by omega, fun j h1 h2 => ?_⟩
      by_cases hj : j = k
      · subst hj; exact c
      · exact ih.2 j (by omega) h2
    · rw [if_neg c]
      exact ⟨by omega, fun j h1 h2 => by omega⟩
abbrev isr (so : Nat) : Prop := so = 1 ∨ so = 2
def tkS (T : Row) (z e : Nat) : Nat := skp T (z - e) e
def tkE (T : Row) (z s : Nat) : Nat := if srt T z s = 0 then s else if srt T z s = 3 then s + 1 else rn1 T z (srt T z s) (z - (s + 1)) (s + 1)
def tkO (T : Row) (z e last : Nat) : Nat := if (tkS T z e = e ∧ isr last) ∧ isr (srt T z (tkS T z e)) then 4 else srt T z (tkS T z e)
/-- start, end, sort, leaves, codes -/
abbrev PS : Type := Nat × Nat × Nat × Nat × Nat × Row
abbrev pS (p : PS) : Nat := p.1
abbrev pE (p : PS) : Nat := p.2.1
abbrev pO (p : PS) : Nat := p.2.2.1
abbrev pV (p : PS) : Nat := p.2.2.2.1
abbrev pM (p : PS) : Nat := p.2.2.2.2.1
abbrev pC (p : PS) : Row := p.2.2.2.2.2
def nx (T : Row) (z : Nat) (p : PS) : PS := (tkS T z (pE p), tkE T z (tkS T z (pE p)), tkO T z (pE p) (pO p), pV p, pM p, pC p)
def ps1 (p : PS) (c : Int32) : PS := (pS p, pE p, pO p, pV p, pM p + 1, va_up (pC p) (pM p) c)
def lf1 (p : PS) : PS := (pS p, pE p, pO p, pV p + 1, pM p, pC p)
def sgI (T : Row) (p : PS) (c : Nat) : Bool := decide (pO p = 3) && decide (T (pS p) = nI c)
def sgC (l : Nat) (b : Int32) : Option Int32 := match l with
  | 0 => if b = nI 124 then some (-20) else none
  | 1 => if b = nI 38 then some (-21) else none
  | 2 => if b = nI 60 then some (-22) else if b = nI 61 then some (-23) else if b = nI 62 then some (-24) else none
  | 3 => if b = nI 43 then some (-25) else if b = nI 45 then some (-26) else none
  | _ => if b = nI 42 then some (-27) else if b = nI 47 then some (-28) else none
def sgOf (T : Row) (l : Nat) (p : PS) : Option Int32 := if pO p = 3 then sgC l (T (pS p)) else none
def num (T : Row) (s : Nat) : Nat → Nat
  | 0 => 0
  | k + 1 => 10 * num T s k + ((T (s + k)).toNatClampNeg - 48)
def nmI (key : Nat) (b : Int32) : Option Nat := lsq (fun i => decide (b = (strs.getD (3 + key) []).getD i 0)) 0 (strs.getD (3 + key) []).length
def lfC (T : Row) (key : Nat) (p : PS) : Option Int32 := if pO p = 2 ∧ pE p - pS p ≤ 4 then some (nI (num T (pS p) (pE p - pS p))) else if pO p = 1 ∧ pE p = pS p + 1 then (nmI key (T (pS p))).map (fun i => -10 + nI i) else none
/-- read: 0 .. 4 the levels, 5 a piece, 10 .. 14 what comes behind a level's first; true: wrong -/
def prs (T : Row) (z key : Nat) : Nat → Nat → Nat → Nat → PS → Bool × PS
  | 0, _, _, _, p => (true, p)
  | f + 1, mode, no, op, p =>
    if mode < 5 then (if (prs T z key f (mode + 1) no op p).1 = true then (true, (prs T z key f (mode + 1) no op p).2) else prs T z key f (10 + mode) no op (prs T z key f (mode + 1) no op p).2)
    else if mode = 5 then
      (if sgI T p 33 = true then (if no < 8 then (if (prs T z key f 5 (no + 1) op (nx T z p)).1 = true then (true, (prs T z key f 5 (no + 1) op (nx T z p)).2) else (false, ps1 (prs T z key f 5 (no + 1) op (nx T z p)).2 (-29))) else (true, p))
      else if sgI T p 40 = true then (if op < 8 then (if (prs T z key f 0 no (op + 1) (nx T z p)).1 = true then (true, (prs T z key f 0 no (op + 1) (nx T z p)).2) else if sgI T (prs T z key f 0 no (op + 1) (nx T z p)).2 41 = true then (false, nx T z (prs T z key f 0 no (op + 1) (nx T z p)).2) else (true, (prs T z key f 0 no (op + 1) (nx T z p)).2)) else (true, p))
      else match lfC T key p with
        | none => (true, p)
        | some c => (false, ps1 (lf1 (nx T z p)) c))
    else match sgOf T (mode - 10) p with
      | none => (false, p)
      | some c => if (prs T z key f (mode - 9) no op (nx T z p)).1 = true then (true, (prs T z key f (mode - 9) no op (nx T z p)).2) else if mode = 12 then (false, ps1 (prs T z key f (mode - 9) no op (nx T z p)).2 c) else prs T z key f mode no op (ps1 (prs T z key f (mode - 9) no op (nx T z p)).2 c)
def wfP (T : Row) (z : Nat) (p : PS) : Prop := pS p ≤ pE p ∧ pE p ≤ z ∧ (pO p ≠ 0 → pS p < pE p) ∧ pO p ≤ 4 ∧ (pO p = 2 → ∀ j, pS p ≤ j → j < pE p → srt T z j = 2)
theorem nx_wf {T : Row} {z : Nat} {p : PS} (hT : okTp T z) (h : pE p ≤ z) : wfP T z (nx T z p) ∧ pE p ≤ pS (nx T z p) := by
  have hs := skp_b (T := T) (z - pE p) (pE p)
  have h3 := srt_le T z (tkS T z (pE p))
  have h0 := srt_0 (k := tkS T z (pE p)) hT
  have hr := rn1_b (T := T) (z := z) (so := srt T z (tkS T z (pE p))) (z - (tkS T z (pE p) + 1)) (tkS T z (pE p) + 1)
  have es : skp T (z - pE p) (pE p) = tkS T z (pE p) := rfl
  rw [es] at hs
  refine ⟨⟨?_, ?_, ?_, ?_, ?_⟩, hs.1⟩
  · show tkS T z (pE p) ≤ tkE T z (tkS T z (pE p))
    unfold tkE
    split
    · exact Nat.le_refl _
    · split <;> omega
  · show tkE T z (tkS T z (pE p)) ≤ z
    unfold tkE
    split
    · omega
    · have : tkS T z (pE p) < z := by
        refine Decidable.byContradiction fun q => ?_
        have := h0.mpr q
        omega
      split <;> omega
  · show tkO T z (pE p) (pO p) ≠ 0 → tkS T z (pE p) < tkE T z (tkS T z (pE p))
    intro q
    have : srt T z (tkS T z (pE p)) ≠ 0 := by
      unfold tkO at q
      split at q
      · omega
      · exact q
    unfold tkE
    rw [if_neg this]
    split <;> omega
  · show tkO T z (pE p) (pO p) ≤ 4
    unfold tkO
    split <;> omega
  · show tkO T z (pE p) (pO p) = 2 → ∀ j, tkS T z (pE p) ≤ j → j < tkE T z (tkS T z (pE p)) → srt T z j = 2
    intro q j h1 h2
    have q2 : srt T z (tkS T z (pE p)) = 2 := by
      unfold tkO at q
      split at q
      · omega
      · exact q
    unfold tkE at h2
    rw [q2, if_neg (by decide), if_neg (by decide)] at h2
    rw [q2] at hr
    by_cases hj : j = tkS T z (pE p)
    · subst hj; exact q2
    · exact hr.2 j (by omega) h2
theorem dp_up {C : Row} {m : Nat} {c : Int32} : ∀ k, k ≤ m → dp (va_up C m c) k = dp C k
  | 0, _ => rfl
  | k + 1, h => by
    unfold dp
    rw [va_up_ne _ _ (by omega), dp_up k (by omega)]
/-- codes so far, in order -/
def okI (C : Row) (m lv nn : Nat) : Prop := (∀ k, k < m → ((-10 : Int32) ≤ C k → dp C k < lv ∧ (C k < 0 → rg nn (C k - -10))) ∧ (C k = -29 → 1 ≤ dp C k) ∧ (¬ (-10 : Int32) ≤ C k → ¬ C k = -29 → 2 ≤ dp C k)) ∧ dp C m ≤ lv ∧ lv ≤ m
theorem okI_old {C : Row} {m lv lv' nn : Nat} {c : Int32} (h : okI C m lv nn) (hl : lv ≤ lv') {k : Nat} (hk : k < m) : ((-10 : Int32) ≤ va_up C m c k → dp (va_up C m c) k < lv' ∧ (va_up C m c k < 0 → rg nn (va_up C m c k - -10))) ∧ (va_up C m c k = -29 → 1 ≤ dp (va_up C m c) k) ∧ (¬ (-10 : Int32) ≤ va_up C m c k → ¬ va_up C m c k = -29 → 2 ≤ dp (va_up C m c) k) := by
  rw [va_up_ne _ _ (by omega), dp_up k (by omega)]
  obtain ⟨a, b, c⟩ := h.1 k hk
  exact ⟨fun q => ⟨by have := (a q).1; omega, (a q).2⟩, b, c⟩
theorem dp_last {C : Row} {m : Nat} {c : Int32} : dp (va_up C m c) (m + 1) = if (-10 : Int32) ≤ c then dp C m + 1 else if c = -29 then dp C m else dp C m - 1 := by
  rw [dp, va_up_self, dp_up m (Nat.le_refl _)]
theorem okI_leaf {C : Row} {m lv nn : Nat} {c : Int32} (h : okI C m lv nn) (hc : (-10 : Int32) ≤ c) (hn : c < 0 → rg nn (c - -10)) : okI (va_up C m c) (m + 1) (lv + 1) nn ∧ dp (va_up C m c) (m + 1) = dp C m + 1 := by
  have e : dp (va_up C m c) (m + 1) = dp C m + 1 := by rw [dp_last, if_pos hc]
  have h1 := h.2.1
  have h2 := h.2.2
  refine ⟨⟨fun k hk => ?_, by omega, by omega⟩, e⟩
  by_cases hkm : k = m
  · subst hkm
    rw [va_up_self, dp_up k (Nat.le_refl _)]
    exact ⟨fun _ => ⟨by omega, hn⟩, fun q => absurd hc (by rw [q]; decide), fun q => absurd hc q⟩
  · exact okI_old h (by omega) (by omega)
theorem okI_not {C : Row} {m lv nn : Nat} (h : okI C m lv nn) (hd : 1 ≤ dp C m) : okI (va_up C m (-29)) (m + 1) lv nn ∧ dp (va_up C m (-29)) (m + 1) = dp C m := by
  have e : dp (va_up C m (-29)) (m + 1) = dp C m := by rw [dp_last, if_neg (by decide), if_pos rfl]
  have h1 := h.2.1
  have h2 := h.2.2
  refine ⟨⟨fun k hk => ?_, by omega, by omega⟩, e⟩
  by_cases hkm : k = m
  · subst hkm
    rw [va_up_self, dp_up k (Nat.le_refl _)]
    exact ⟨fun q => absurd q (by decide), fun _ => hd, fun _ q => absurd rfl q⟩
  · exact okI_old h (Nat.le_refl _) (by omega)
theorem okI_two {C : Row} {m lv nn : Nat} {c : Int32} (h : okI C m lv nn) (hc : ¬ (-10 : Int32) ≤ c) (hc2 : ¬ c = -29) (hd : 2 ≤ dp C m) : okI (va_up C m c) (m + 1) lv nn ∧ dp (va_up C m c) (m + 1) = dp C m - 1 := by
  have e : dp (va_up C m c) (m + 1) = dp C m - 1 := by rw [dp_last, if_neg hc, if_neg hc2]
  have h1 := h.2.1
  have h2 := h.2.2
  refine ⟨⟨fun k hk => ?_, by omega, by omega⟩, e⟩
  by_cases hkm : k = m
  · subst hkm
    rw [va_up_self, dp_up k (Nat.le_refl _)]
    exact ⟨fun q => absurd q hc, fun q => absurd q hc2, fun _ _ => hd⟩
  · exact okI_old h (Nat.le_refl _) (by omega)
theorem sgC_op {l : Nat} {b c : Int32} (h : sgC l b = some c) : ¬ (-10 : Int32) ≤ c ∧ ¬ c = -29 := by
  unfold sgC at h
  split at h <;> (repeat' split at h) <;> first | cases h | skip
  all_goals exact ⟨by decide, by decide⟩
theorem sgOf_3 {T : Row} {l : Nat} {p : PS} {c : Int32} (h : sgOf T l p = some c) : pO p = 3 ∧ sgC l (T (pS p)) = some c := by
  unfold sgOf at h
  by_cases q : pO p = 3
  · rw [if_pos q] at h; exact ⟨q, h⟩
  · rw [if_neg q] at h; cases h
theorem num_lt {T : Row} {s z : Nat} (hT : okTp T z) : ∀ k, (∀ j, s ≤ j → j < s + k → srt T z j = 2) → num T s k < 10 ^ k
  | 0, _ => by unfold num; decide
  | k + 1, h => by
    have ih := num_lt (s := s) hT k (fun j a b => h j a (by omega))
    have h2 := h (s + k) (by omega) (by omega)
    have hz : s + k < z := by
      refine Decidable.byContradiction fun q => ?_
      have := (srt_0 (k := s + k) hT).mpr q
      omega
    unfold srt byA at h2
    rw [if_pos hz] at h2
    obtain ⟨b, hb, e⟩ := rg_of (hT.2 _ hz) (by omega)
    rw [e] at h2
    unfold sOf at h2
    rw [nI_toInt (by omega)] at h2
    unfold num
    rw [e, nI_clamp (by omega), Nat.pow_succ]
    split at h2
    · omega
    · split at h2
      · omega
      · split at h2
        · omega
        · omega
theorem nmI_lt {key i : Nat} {b : Int32} (hk : key < 3) (h : nmI key b = some i) : i < nnOf key := by
  have := (lsq_in h).2.1
  obtain rfl | rfl | rfl : key = 0 ∨ key = 1 ∨ key = 2 := by omega
  all_goals exact Nat.lt_of_lt_of_eq this (by decide)
theorem lfC_ok {T : Row} {z key : Nat} {p : PS} {c : Int32} (hT : okTp T z) (hk : key < 3) (h : wfP T z p) (e : lfC T key p = some c) : (-10 : Int32) ≤ c ∧ (c < 0 → rg (nnOf key) (c - -10)) ∧ pO p ≠ 0 := by
  unfold lfC at e
  by_cases c1 : pO p = 2 ∧ pE p - pS p ≤ 4
  · rw [if_pos c1] at e
    cases e
    have h1 := h.1
    have hn := num_lt (s := pS p) hT (pE p - pS p) (fun j a b => h.2.2.2.2 c1.1 j a (by omega))
    have : 10 ^ (pE p - pS p) ≤ 10 ^ 4 := Nat.pow_le_pow_right (by decide) c1.2
    have e1 := nI_toInt (n := num T (pS p) (pE p - pS p)) (by omega)
    have e2 : (-10 : Int32).toInt = -10 := rfl
    have e3 : (0 : Int32).toInt = 0 := rfl
    refine ⟨by rw [le_toInt]; omega, fun q => ?_, by omega⟩
    rw [lt_toInt] at q
    omega
  · rw [if_neg c1] at e
    by_cases c2 : pO p = 1 ∧ pE p = pS p + 1
    · rw [if_pos c2] at e
      cases hn : nmI key (T (pS p)) with
      | none => rw [hn] at e; cases e
      | some i =>
        rw [hn] at e
        cases e
        have hi := nmI_lt hk hn
        have h3 := nn_le key
        obtain rfl | rfl | rfl : i = 0 ∨ i = 1 ∨ i = 2 := by omega
        · exact ⟨by decide, fun _ => rg_nI (j := 0) hi (by omega), by omega⟩
        · exact ⟨by decide, fun _ => rg_nI (j := 1) hi (by omega), by omega⟩
        · exact ⟨by decide, fun _ => rg_nI (j := 2) hi (by omega), by omega⟩
    · rw [if_neg c2] at e; cases e
def rkm (mode : Nat) : Nat := if mode ≤ 5 then 6 - mode else 6
abbrev okMd (mode : Nat) : Prop := mode ≤ 5 ∨ (10 ≤ mode ∧ mode ≤ 14)
/-- what a reading keeps -/
def prQ (T : Row) (z key mode : Nat) (p : PS) (r : Bool × PS) : Prop := wfP T z r.2 ∧ pS p ≤ pS r.2 ∧ (r.1 = false → (mode ≤ 5 → pS p < pS r.2) ∧ pM p ≤ pM r.2 ∧ pM r.2 + pS p ≤ pM p + pS r.2 ∧ okI (pC r.2) (pM r.2) (pV r.2) (nnOf key) ∧ dp (pC r.2) (pM r.2) = dp (pC p) (pM p) + (if mode ≤ 5 then 1 else 0))
theorem sgI_3 {T : Row} {p : PS} {c : Nat} (h : sgI T p c = true) : pO p = 3 ∧ T (pS p) = nI c := by
  unfold sgI at h
  rw [Bool.and_eq_true] at h
  exact ⟨of_decide_eq_true h.1, of_decide_eq_true h.2⟩
theorem rkm_le {mode : Nat} (h : mode ≤ 5) : rkm mode = 6 - mode := if_pos h
theorem rkm_gt {mode : Nat} (h : ¬ mode ≤ 5) : rkm mode = 6 := if_neg h
theorem prs_ok {T : Row} {z key : Nat} (hT : okTp T z) (hk : key < 3) : ∀ (f mode no op : Nat) (p : PS), okMd mode → wfP T z p → 7 * (z - pS p) + rkm mode < f → okI (pC p) (pM p) (pV p) (nnOf key) → (10 ≤ mode → 1 ≤ dp (pC p) (pM p)) → prQ T z key mode p (prs T z key f mode no op p)
  | 0, mode, no, op, p, hm, hw, hf, hI, hd => by omega
  | f + 1, mode, no, op, p, hm, hw, hf, hI, hd => by
    have w1 := hw.1
    have w2 := hw.2.1
    have w3 := hw.2.2.1
    obtain ⟨n1, n2⟩ := nx_wf hT w2
    have n3 := n1.1
    have n4 := n1.2.1
    have eM : pM (nx T z p) = pM p := rfl
    have eC : pC (nx T z p) = pC p := rfl
    have nI0 : okI (pC (nx T z p)) (pM (nx T z p)) (pV (nx T z p)) (nnOf key) := hI
    rw [prs]
    by_cases hm5 : mode < 5
    · rw [if_pos hm5]
      rw [rkm_le (by omega)] at hf
      have h1 := prs_ok hT hk f (mode + 1) no op p (Or.inl (by omega)) hw (by rw [rkm_le (by omega)]; omega) hI (by omega)
      generalize prs T z key f (mode + 1) no op p = r1 at *
      obtain ⟨v1, p1⟩ := r1
      cases v1 with
      | true =>
        rw [if_pos rfl]
        exact ⟨h1.1, h1.2.1, fun q => nomatch q⟩
      | false =>
        dsimp only
        rw [if_neg (by decide)]
        obtain ⟨a1, a2, a3⟩ := h1
        obtain ⟨b1, b2, b3, b4, b5⟩ := a3 rfl
        have b1 := b1 (by omega)
        have a4 := a1.1
        have a5 := a1.2.1
        rw [if_pos (by omega)] at b5
        dsimp only at a2 a4 a5 b1 b2 b3 b4 b5
        have h2 := prs_ok hT hk f (10 + mode) no op p1 (Or.inr ⟨by omega, by omega⟩) a1 (by rw [rkm_gt (by omega)]; omega) b4 (fun _ => by rw [b5]; omega)
        obtain ⟨c1, c2, c3⟩ := h2
        refine ⟨c1, Nat.le_trans a2 c2, fun q => ?_⟩
        obtain ⟨d1, d2, d3, d4, d5⟩ := c3 q
        rw [if_neg (by omega)] at d5
        exact ⟨fun _ => Nat.lt_of_lt_of_le b1 c2, Nat.le_trans b2 d2, by omega, d4, by rw [d5, b5, if_pos (by omega)]⟩
    · rw [if_neg hm5]
      by_cases h5 : mode = 5
      · subst h5
        rw [if_pos rfl]
        rw [rkm_le (by omega)] at hf
        by_cases s1 : sgI T p 33 = true
        · rw [if_pos s1]
          have w4 := w3 (by rw [(sgI_3 s1).1]; decide)
          by_cases hno : no < 8
          · rw [if_pos hno]
            have h1 := prs_ok hT hk f 5 (no + 1) op (nx T z p) (Or.inl (by omega)) n1 (by rw [rkm_le (by omega)]; omega) nI0 (by omega)
            generalize prs T z key f 5 (no + 1) op (nx T z p) = r1 at *
            obtain ⟨v1, p1⟩ := r1
            cases v1 with
            | true =>
              rw [if_pos rfl]
              exact ⟨h1.1, by have := h1.2.1; show pS p ≤ pS p1; dsimp only at this; omega, fun q => nomatch q⟩
            | false =>
              dsimp only
              rw [if_neg (by decide)]
              obtain ⟨a1, a2, a3⟩ := h1
              obtain ⟨b1, b2, b3, b4, b5⟩ := a3 rfl
              have b1 := b1 (by omega)
              rw [if_pos (by omega), eC, eM] at b5
              dsimp only at a2 b1 b2 b3 b4 b5
              rw [eM] at b2 b3
              obtain ⟨o1, o2⟩ := okI_not b4 (by omega)
              refine ⟨a1, ?_, fun _ => ⟨fun _ => ?_, ?_, ?_, o1, ?_⟩⟩
              · show pS p ≤ pS p1; omega
              · show pS p < pS p1; omega
              · show pM p ≤ pM p1 + 1; omega
              · show pM p1 + 1 + pS p ≤ pM p + pS p1; omega
              · show dp (va_up (pC p1) (pM p1) (-29)) (pM p1 + 1) = _
                rw [o2, b5, if_pos (by omega)]
          · rw [if_neg hno]
            exact ⟨hw, Nat.le_refl _, fun q => nomatch q⟩
        · rw [if_neg s1]
          by_cases s2 : sgI T p 40 = true
          · rw [if_pos s2]
            have w4 := w3 (by rw [(sgI_3 s2).1]; decide)
            by_cases hop : op < 8
            · rw [if_pos hop]
              have h1 := prs_ok hT hk f 0 no (op + 1) (nx T z p) (Or.inl (by omega)) n1 (by rw [rkm_le (by omega)]; omega) nI0 (by omega)
              generalize prs T z key f 0 no (op + 1) (nx T z p) = r1 at *
              obtain ⟨v1, p1⟩ := r1
              cases v1 with
              | true =>
                rw [if_pos rfl]
                exact ⟨h1.1, by have := h1.2.1; show pS p ≤ pS p1; dsimp only at this; omega, fun q => nomatch q⟩
              | false =>
                dsimp only
                rw [if_neg (by decide)]
                obtain ⟨a1, a2, a3⟩ := h1
                obtain ⟨b1, b2, b3, b4, b5⟩ := a3 rfl
                have b1 := b1 (by omega)
                rw [if_pos (by omega), eC, eM] at b5
                dsimp only at a1 a2 b1 b2 b3 b4 b5
                rw [eM] at b2 b3
                by_cases s3 : sgI T p1 41 = true
                · rw [if_pos s3]
                  have w5 := a1.2.2.1 (by rw [(sgI_3 s3).1]; decide)
                  obtain ⟨m1, m2⟩ := nx_wf (p := p1) hT a1.2.1
                  refine ⟨m1, ?_, fun _ => ⟨fun _ => ?_, b2, ?_, b4, ?_⟩⟩
                  · show pS p ≤ pS (nx T z p1); omega
                  · show pS p < pS (nx T z p1); omega
                  · show pM p1 + pS p ≤ pM p + pS (nx T z p1); omega
                  · show dp (pC p1) (pM p1) = _
                    rw [b5, if_pos (by omega)]
                · rw [if_neg s3]
                  exact ⟨a1, by show pS p ≤ pS p1; omega, fun q => nomatch q⟩
            · rw [if_neg hop]
              exact ⟨hw, Nat.le_refl _, fun q => nomatch q⟩
          · rw [if_neg s2]
            cases hl : lfC T key p with
            | none => exact ⟨hw, Nat.le_refl _, fun q => nomatch q⟩
            | some c =>
              obtain ⟨l1, l2, l3⟩ := lfC_ok hT hk hw hl
              have w4 := w3 l3
              obtain ⟨o1, o2⟩ := okI_leaf hI l1 l2
              refine ⟨n1, ?_, fun _ => ⟨fun _ => ?_, ?_, ?_, o1, ?_⟩⟩
              · show pS p ≤ pS (nx T z p); omega
              · show pS p < pS (nx T z p); omega
              · show pM p ≤ pM p + 1; omega
              · show pM p + 1 + pS p ≤ pM p + pS (nx T z p); omega
              · show dp (va_up (pC p) (pM p) c) (pM p + 1) = _
                rw [o2, if_pos (by omega)]
      · rw [if_neg h5]
        rw [rkm_gt (by omega)] at hf
        have hd := hd (by omega)
        cases hs : sgOf T (mode - 10) p with
        | none => exact ⟨hw, Nat.le_refl _, fun _ => ⟨fun q => absurd q (by omega), Nat.le_refl _, Nat.le_refl _, hI, by rw [if_neg (by omega)]; rfl⟩⟩
        | some c =>
          dsimp only
          obtain ⟨q3, qc⟩ := sgOf_3 hs
          obtain ⟨qa, qb⟩ := sgC_op qc
          have w4 := w3 (by rw [q3]; decide)
          have h1 := prs_ok hT hk f (mode - 9) no op (nx T z p) (Or.inl (by omega)) n1 (by rw [rkm_le (by omega)]; omega) nI0 (by omega)
          generalize prs T z key f (mode - 9) no op (nx T z p) = r1 at *
          obtain ⟨v1, p1⟩ := r1
          cases v1 with
          | true =>
            rw [if_pos rfl]
            exact ⟨h1.1, by have := h1.2.1; show pS p ≤ pS p1; dsimp only at this; omega, fun q => nomatch q⟩
          | false =>
            dsimp only
            rw [if_neg (by decide)]
            obtain ⟨a1, a2, a3⟩ := h1
            obtain ⟨b1, b2, b3, b4, b5⟩ := a3 rfl
            have b1 := b1 (by omega)
            rw [if_pos (by omega), eC, eM] at b5
            dsimp only at a1 a2 b1 b2 b3 b4 b5
            rw [eM] at b2 b3
            have a5 := a1.1
            have a6 := a1.2.1
            obtain ⟨o1, o2⟩ := okI_two b4 qa qb (by omega)
            have o3 : dp (va_up (pC p1) (pM p1) c) (pM p1 + 1) = dp (pC p) (pM p) := by rw [o2, b5]; omega
            by_cases h12 : mode = 12
            · rw [if_pos h12]
              refine ⟨a1, ?_, fun _ => ⟨fun q => absurd q (by omega), ?_, ?_, o1, ?_⟩⟩
              · show pS p ≤ pS p1; omega
              · show pM p ≤ pM p1 + 1; omega
              · show pM p1 + 1 + pS p ≤ pM p + pS p1; omega
              · rw [if_neg (by omega)]; exact o3
            · rw [if_neg h12]
              have h2 := prs_ok hT hk f mode no op (ps1 p1 c) hm a1 (by rw [rkm_gt (by omega)]; show 7 * (z - pS p1) + 6 < f; omega) o1 (fun _ => by show 1 ≤ dp (va_up (pC p1) (pM p1) c) (pM p1 + 1); omega)
              obtain ⟨c1, c2, c3⟩ := h2
              have c2 : pS p1 ≤ pS (prs T z key f mode no op (ps1 p1 c)).2 := c2
              refine ⟨c1, by omega, fun q => ?_⟩
              obtain ⟨d1, d2, d3, d4, d5⟩ := c3 q
              have d2 : pM p1 + 1 ≤ pM (prs T z key f mode no op (ps1 p1 c)).2 := d2
              have d3 : pM (prs T z key f mode no op (ps1 p1 c)).2 + pS p1 ≤ pM p1 + 1 + pS (prs T z key f mode no op (ps1 p1 c)).2 := d3
              rw [if_neg (by omega)] at d5
              exact ⟨fun q => absurd q (by omega), by omega, by omega, d4, by rw [d5, if_neg (by omega)]; exact o3⟩
end PU15
