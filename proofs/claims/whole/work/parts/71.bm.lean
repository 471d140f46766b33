/-! The heap while the model is made. -/
section BM
def cuS (m : Nat) : Option Nat → Option Nat
  | some r => if r < m ∨ 1000000 ≤ r then some r else none
  | none => none
theorem cuS_s {m r : Nat} : cuS m (some r) = if r < m ∨ 1000000 ≤ r then some r else none := rfl
theorem cuS_up {n : Nat} {x : Option Nat} (h : ∀ r, x = some r → r ≠ n) : cuS n x = cuS (n + 1) x := by
  cases x with
  | none => rfl
  | some r =>
    have := h r rfl
    rw [cuS_s, cuS_s]
    by_cases h1 : r < n ∨ 1000000 ≤ r
    · rw [if_pos h1, if_pos (by omega)]
    · rw [if_neg h1, if_neg (by omega)]
def Bm (n : Nat) (g : Geo) : Prop := gz g = n ∧ (∀ i, i < n → gk g i = kd0 i) ∧ ∀ i k, i < n → gR g i k = cuS n (R0 i k)
def chM (n o f : Nat) : Bool := (List.range n).all fun i => (List.range 40).all fun k => ck2 n o f i k (R0 i k)
theorem Bm_st {n o f : Nat} {g g' : Geo} (h : Bm n g) (hX : ∀ i, i < n → gk g' i = gk g i ∧ gR g' i = gR g i) (hz : gz g' = n + 1) (hk : gk g' n = kd0 n) (hR : ∀ k, gR g' n k = cuS (n + 1) (R0 n k)) (ho : o < n) (h121 : n + 1 ≤ 121) (hf : R0 o f = some n) (hc : chM n o f = true) : Bm (n + 1) (gpR g' o f (some n)) := by
  refine ⟨by rw [gz_p]; exact hz, fun i hi => ?_, fun i k hi => ?_⟩
  · rw [gk_p]
    by_cases e : i = n
    · subst e; exact hk
    · exact (hX i (by omega)).1.trans (h.2.1 i (by omega))
  · rw [gR_p]
    by_cases e : i = n
    · subst e
      rw [va_up_ne _ _ (by omega)]
      exact hR k
    · by_cases e2 : i = o ∧ k = f
      · obtain ⟨rfl, rfl⟩ := e2
        rw [va_up_self, va_up_self, hf, cuS_s, if_pos (by omega)]
      · have e3 : va_up (gR g') o (va_up (gR g' o) f (some n)) i k = gR g' i k := by
          by_cases e4 : i = o
          · subst e4
            rw [va_up_self, va_up_ne _ _ (fun q => e2 ⟨rfl, q⟩)]
          · rw [va_up_ne _ _ e4]
        rw [e3, (hX i (by omega)).2, h.2.2 i k (by omega)]
        refine cuS_up fun r er hr => ?_
        by_cases h1 : k < 40
        · have q := List.all_eq_true.1 (List.all_eq_true.1 hc i (List.mem_range.2 (by omega))) k (List.mem_range.2 h1)
          rw [er] at q
          unfold ck2 at q
          simp only [Bool.or_eq_true, Bool.and_eq_true, Bool.not_eq_true', Nat.beq_eq] at q
          obtain q | q := q
          · rw [← Bool.not_eq_true, Nat.beq_eq] at q
            omega
          · exact absurd q e2
        · rw [R0_big (by omega) (by omega)] at er; cases er
theorem Bm_ar {n f t m : Nat} {g : Geo} (h : Bm n g) (h0 : 101 < n) (h121 : n + 1 ≤ 121) (hk : kd0 n = (t, m)) (hR : R0 n = fun k => ([] : List (Option Nat)).getD k none) (hf : R0 101 f = some n) (hc : chM n 101 f = true) : Bm (n + 1) (gpR (galloc g t m) 101 f (some (gz g))) := by
  have hz := h.1
  rw [hz]
  refine Bm_st h (fun i hi => ⟨?_, ?_⟩) ?_ ?_ (fun k => ?_) h0 h121 hf hc
  · rw [gk_al, va_up_ne _ _ (by omega)]
  · rw [gR_al, va_up_ne _ _ (by omega)]
  · rw [gz_al, hz]
  · rw [gk_al, hz, va_up_self, hk]
  · rw [gR_al, hz, va_up_self, hR]
    rfl
set_option maxRecDepth 100000 in
theorem Bm_nw {g : Geo} (h : Bu 101 g) : Bm 102 (galloc g 10 31) := by
  have hz := h.1
  refine ⟨by rw [gz_al, hz], fun i hi => ?_, fun i k hi => ?_⟩
  · rw [gk_al, hz]
    by_cases e : i = 101
    · subst e; rw [va_up_self]; rfl
    · rw [va_up_ne _ _ e]; exact h.2.1 i (by omega)
  · rw [gR_al, hz]
    by_cases h1 : k < 40
    · by_cases e : i = 101
      · subst e
        rw [va_up_self]
        have q : ((List.range 40).all fun k => decide (cuS 102 (R0 101 k) = none)) = true := by decide
        exact (of_decide_eq_true (List.all_eq_true.1 q k (List.mem_range.2 h1))).symm
      · rw [va_up_ne _ _ e, h.2.2 i k (by omega)]
        have q : ((List.range 101).all fun i => (List.range 40).all fun k => decide (cut 101 (R0 i k) = cuS 102 (R0 i k))) = true := by decide
        exact of_decide_eq_true (List.all_eq_true.1 (List.all_eq_true.1 q i (List.mem_range.2 (by omega))) k (List.mem_range.2 h1))
    · rw [R0_big (by omega) (by omega)]
      by_cases e : i = 101
      · subst e; rw [va_up_self]; rfl
      · rw [va_up_ne _ _ e, h.2.2 i k (by omega), R0_big (by omega) (by omega)]; rfl
set_option maxRecDepth 100000 in
theorem Bm_st9 {g : Geo} (h : Bm 109 g) : Bm 110 (gpR (gpR (gpR (gpR (galloc g 105 3) (gz g) 0 (some 1000000)) (gz g) 1 (some 1000001)) (gz g) 2 (some 1000002)) 101 9 (some (gz g))) := by
  have hz := h.1
  rw [hz]
  refine Bm_st h (fun i hi => ⟨?_, ?_⟩) ?_ ?_ (fun k => ?_) (by omega) (by omega) rfl (by decide)
  · simp (disch := omega) only [gk_al, gk_p, va_up_ne, ne_eq]
  · simp (disch := omega) only [gR_al, gR_p, va_up_ne, ne_eq]
  · simp only [gz_al, gz_p, hz]
  · simp (disch := omega) only [gk_al, gk_p, hz, va_here]; rfl
  · rw [R0_fn (i := 109) (F := va_up (va_up (va_up (fun _ => none) 0 (some 1000000)) 1 (some 1000001)) 2 (some 1000002)) (by omega) (by decide) (fun k hk => by simp (disch := omega) only [va_up_ne, ne_eq]) k]
    simp (disch := omega) only [gR_al, gR_p, hz, va_here]
    by_cases h2 : k = 2
    · subst h2; rfl
    by_cases h1 : k = 1
    · subst h1; rfl
    by_cases h0 : k = 0
    · subst h0; rfl
    rw [va_up_ne _ _ h2, va_up_ne _ _ h1, va_up_ne _ _ h0]
    rfl
set_option maxRecDepth 100000 in
theorem Bm_st10 {g : Geo} (h : Bm 110 g) : Bm 111 (gpR (gpR (gpR (gpR (galloc g 105 3) (gz g) 0 (some 1000003)) (gz g) 1 (some 1000004)) (gz g) 2 (some 1000005)) 101 10 (some (gz g))) := by
  have hz := h.1
  rw [hz]
  refine Bm_st h (fun i hi => ⟨?_, ?_⟩) ?_ ?_ (fun k => ?_) (by omega) (by omega) rfl (by decide)
  · simp (disch := omega) only [gk_al, gk_p, va_up_ne, ne_eq]
  · simp (disch := omega) only [gR_al, gR_p, va_up_ne, ne_eq]
  · simp only [gz_al, gz_p, hz]
  · simp (disch := omega) only [gk_al, gk_p, hz, va_here]; rfl
  · rw [R0_fn (i := 110) (F := va_up (va_up (va_up (fun _ => none) 0 (some 1000003)) 1 (some 1000004)) 2 (some 1000005)) (by omega) (by decide) (fun k hk => by simp (disch := omega) only [va_up_ne, ne_eq]) k]
    simp (disch := omega) only [gR_al, gR_p, hz, va_here]
    by_cases h2 : k = 2
    · subst h2; rfl
    by_cases h1 : k = 1
    · subst h1; rfl
    by_cases h0 : k = 0
    · subst h0; rfl
    rw [va_up_ne _ _ h2, va_up_ne _ _ h1, va_up_ne _ _ h0]
    rfl
set_option maxRecDepth 100000 in
theorem Bm_ok {g : Geo} (h : Bm 121 g) : GeoOK g := by
  have hz := h.1
  refine ⟨by omega, by omega, h.2.1, fun i k hi _ _ _ => ?_⟩
  rw [h.2.2 i k hi]
  by_cases h1 : k < 40
  · have q : ((List.range 121).all fun i => (List.range 40).all fun k => decide (cuS 121 (R0 i k) = R0 i k)) = true := by decide
    exact of_decide_eq_true (List.all_eq_true.1 (List.all_eq_true.1 q i (List.mem_range.2 hi)) k (List.mem_range.2 h1))
  · rw [R0_big hi (by omega)]; rfl
end BM
