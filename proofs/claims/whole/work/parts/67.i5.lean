/-! The constructor of the class: the walk, the walker, the reader, the arrays. -/
section PI5
set_option maxRecDepth 100000 in
theorem Bu_Wa {g : Geo} (h : Bu 61 g) : Bu 63 (gpR (gpR (galloc (galloc g 7 6) 100 60) (gz g) 5 (some (gz g + 1))) 0 4 (some (gz g))) := by
  have hz := h.1
  rw [hz]
  refine Bu_st h (fun i hi => ⟨?_, ?_⟩) ?_ (fun j hj => ?_) (fun j hj k => ?_) (by omega) (by omega) (by omega) rfl (by decide)
  · simp (disch := omega) only [gk_al, gk_p, gR_al, gR_p, gz_al, gz_p, hz, va_here, va_up_ne, ne_eq]
  · simp (disch := omega) only [gk_al, gk_p, gR_al, gR_p, gz_al, gz_p, hz, va_here, va_up_ne, ne_eq]
  · simp only [gz_al, gz_p, hz]
  · obtain rfl | rfl : j = 0 ∨ j = 1 := by omega
    all_goals (simp (disch := omega) only [gk_al, gk_p, gR_al, gR_p, gz_al, gz_p, hz, va_here, va_up_ne, ne_eq]; rfl)
  · obtain rfl | rfl : j = 0 ∨ j = 1 := by omega
    · rw [R0_fn (i := 61 + 0) (F := (va_up (fun _ => none) 5 (some 62))) (by omega) (by decide) (fun k hk => by simp (disch := omega) only [va_up_ne, ne_eq]) k]
      simp (disch := omega) only [gk_al, gk_p, gR_al, gR_p, gz_al, gz_p, hz, va_here, va_up_ne, ne_eq]
    · rw [R0_fn (i := 61 + 1) (F := (fun _ => none)) (by omega) (by decide) (fun _ _ => rfl) k]
      simp (disch := omega) only [gk_al, gk_p, gR_al, gR_p, gz_al, gz_p, hz, va_here, va_up_ne, ne_eq]
set_option maxRecDepth 100000 in
theorem Bu_Wr {g : Geo} (h : Bu 63 g) : Bu 66 (gpR (gpR (galloc (gpR (galloc (galloc g 8 2) 100 14) (gz g) 0 (some (gz g + 1))) 100 8) (gz g) 1 (some (gz g + 2))) 0 5 (some (gz g))) := by
  have hz := h.1
  rw [hz]
  refine Bu_st h (fun i hi => ⟨?_, ?_⟩) ?_ (fun j hj => ?_) (fun j hj k => ?_) (by omega) (by omega) (by omega) rfl (by decide)
  · simp (disch := omega) only [gk_al, gk_p, gR_al, gR_p, gz_al, gz_p, hz, va_here, va_up_ne, ne_eq]
  · simp (disch := omega) only [gk_al, gk_p, gR_al, gR_p, gz_al, gz_p, hz, va_here, va_up_ne, ne_eq]
  · simp only [gz_al, gz_p, hz]
  · obtain rfl | rfl | rfl : j = 0 ∨ j = 1 ∨ j = 2 := by omega
    all_goals (simp (disch := omega) only [gk_al, gk_p, gR_al, gR_p, gz_al, gz_p, hz, va_here, va_up_ne, ne_eq]; rfl)
  · obtain rfl | rfl | rfl : j = 0 ∨ j = 1 ∨ j = 2 := by omega
    · rw [R0_fn (i := 63 + 0) (F := (va_up (va_up (fun _ => none) 0 (some 64)) 1 (some 65))) (by omega) (by decide) (fun k hk => by simp (disch := omega) only [va_up_ne, ne_eq]) k]
      simp (disch := omega) only [gk_al, gk_p, gR_al, gR_p, gz_al, gz_p, hz, va_here, va_up_ne, ne_eq]
    · rw [R0_fn (i := 63 + 1) (F := (fun _ => none)) (by omega) (by decide) (fun _ _ => rfl) k]
      simp (disch := omega) only [gk_al, gk_p, gR_al, gR_p, gz_al, gz_p, hz, va_here, va_up_ne, ne_eq]
    · rw [R0_fn (i := 63 + 2) (F := (fun _ => none)) (by omega) (by decide) (fun _ _ => rfl) k]
      simp (disch := omega) only [gk_al, gk_p, gR_al, gR_p, gz_al, gz_p, hz, va_here, va_up_ne, ne_eq]
set_option maxRecDepth 100000 in
theorem Bu_Re {g : Geo} (h : Bu 66 g) : Bu 70 (gpR (reG (galloc g 2 10) (gz g)) 0 6 (some (gz g))) := by
  have hz := h.1
  unfold reG
  simp only [gz_al, gz_p]
  rw [hz]
  refine Bu_st h (fun i hi => ⟨?_, ?_⟩) ?_ (fun j hj => ?_) (fun j hj k => ?_) (by omega) (by omega) (by omega) rfl (by decide)
  · simp (disch := omega) only [gk_al, gk_p, gR_al, gR_p, gz_al, gz_p, hz, va_here, va_up_ne, ne_eq]
  · simp (disch := omega) only [gk_al, gk_p, gR_al, gR_p, gz_al, gz_p, hz, va_here, va_up_ne, ne_eq]
  · simp only [gz_al, gz_p, hz]
  · obtain rfl | rfl | rfl | rfl : j = 0 ∨ j = 1 ∨ j = 2 ∨ j = 3 := by omega
    all_goals (simp (disch := omega) only [gk_al, gk_p, gR_al, gR_p, gz_al, gz_p, hz, va_here, va_up_ne, ne_eq]; rfl)
  · obtain rfl | rfl | rfl | rfl : j = 0 ∨ j = 1 ∨ j = 2 ∨ j = 3 := by omega
    · rw [R0_fn (i := 66 + 0) (F := (va_up (va_up (fun _ => none) 0 (some 67)) 5 (some 69))) (by omega) (by decide) (fun k hk => by simp (disch := omega) only [va_up_ne, ne_eq]) k]
      simp (disch := omega) only [gk_al, gk_p, gR_al, gR_p, gz_al, gz_p, hz, va_here, va_up_ne, ne_eq]
    · rw [R0_fn (i := 66 + 1) (F := (va_up (fun _ => none) 0 (some 68))) (by omega) (by decide) (fun k hk => by simp (disch := omega) only [va_up_ne, ne_eq]) k]
      simp (disch := omega) only [gk_al, gk_p, gR_al, gR_p, gz_al, gz_p, hz, va_here, va_up_ne, ne_eq]
    · rw [R0_fn (i := 66 + 2) (F := (fun _ => none)) (by omega) (by decide) (fun _ _ => rfl) k]
      simp (disch := omega) only [gk_al, gk_p, gR_al, gR_p, gz_al, gz_p, hz, va_here, va_up_ne, ne_eq]
    · rw [R0_fn (i := 66 + 3) (F := (fun _ => none)) (by omega) (by decide) (fun _ _ => rfl) k]
      simp (disch := omega) only [gk_al, gk_p, gR_al, gR_p, gz_al, gz_p, hz, va_here, va_up_ne, ne_eq]
def ck2 (n o f i k : Nat) : Option Nat → Bool
  | some r => !(Nat.beq r n) || (Nat.beq i o && Nat.beq k f)
  | none => true
def chA (n f : Nat) : Bool := ((List.range n).all fun i => (List.range 40).all fun k => ck2 n 0 f i k (R0 i k)) && ((List.range 40).all fun k => decide (cut (n + 1) (R0 n k) = none))
theorem Bu_ar {n f t m : Nat} {g : Geo} (h : Bu n g) (h0 : 0 < n) (h121 : n + 1 ≤ 121) (hk : kd0 n = (t, m)) (hf : R0 0 f = some n) (hc : chA n f = true) : Bu (n + 1) (gpR (galloc g t m) 0 f (some (gz g))) := by
  have hz := h.1
  rw [hz]
  unfold chA at hc
  rw [Bool.and_eq_true] at hc
  refine ⟨by rw [gz_p, gz_al, hz], fun i hi => ?_, fun i k hi => ?_⟩
  · rw [gk_p, gk_al, hz]
    by_cases e : i = n
    · subst e; rw [va_up_self, hk]
    · rw [va_up_ne _ _ e]; exact h.2.1 i (by omega)
  · rw [gR_p, gR_al, hz]
    by_cases e : i = n
    · subst e
      rw [va_up_ne _ _ (by omega), va_up_self]
      by_cases h1 : k < 40
      · exact (of_decide_eq_true (List.all_eq_true.1 hc.2 k (List.mem_range.2 h1))).symm
      · rw [R0_big (by omega) (by omega)]; rfl
    · by_cases e2 : i = 0 ∧ k = f
      · obtain ⟨rfl, rfl⟩ := e2
        rw [va_up_self, va_up_self, hf, cut_s, if_pos (by omega)]
      · have e3 : va_up (va_up (gR g) n fun _ => none) 0 (va_up (va_up (gR g) n (fun _ => none) 0) f (some n)) i k = gR g i k := by
          by_cases e4 : i = 0
          · subst e4
            rw [va_up_self, va_up_ne _ _ (fun q => e2 ⟨rfl, q⟩), va_up_ne _ _ (by omega)]
          · rw [va_up_ne _ _ e4, va_up_ne _ _ e]
        rw [e3, h.2.2 i k (by omega)]
        refine cut_up (by omega) fun r er hr => ?_
        by_cases h1 : k < 40
        · have q := List.all_eq_true.1 (List.all_eq_true.1 hc.1 i (List.mem_range.2 (by omega))) k (List.mem_range.2 h1)
          rw [er] at q
          unfold ck2 at q
          simp only [Bool.or_eq_true, Bool.and_eq_true, Bool.not_eq_true', Nat.beq_eq] at q
          obtain q | q := q
          · rw [← Bool.not_eq_true, Nat.beq_eq] at q
            omega
          · exact absurd q e2
        · rw [R0_big (by omega) (by omega)] at er; cases er
end PI5
