/-! The heap while the class is made: cells up to n stand as they will. -/
section BU
def cut (m : Nat) : Option Nat → Option Nat
  | some r => if r < m then some r else none
  | none => none
theorem cut_s {m r : Nat} : cut m (some r) = if r < m then some r else none := rfl
theorem cut_up {n n' : Nat} {x : Option Nat} (hn : n ≤ n') (h : ∀ r, x = some r → r < n' → r < n) : cut n x = cut n' x := by
  cases x with
  | none => rfl
  | some r =>
    rw [cut_s, cut_s]
    by_cases h1 : r < n
    · rw [if_pos h1, if_pos (by omega)]
    · rw [if_neg h1, if_neg (fun q => h1 (h r rfl q))]
theorem cut_id {n : Nat} {x : Option Nat} (h : ∀ r, x = some r → r < n) : x = cut n x := by
  cases x with
  | none => rfl
  | some r => rw [cut_s, if_pos (h r rfl)]
def Bu (n : Nat) (g : Geo) : Prop := gz g = n ∧ (∀ i, i < n → gk g i = kd0 i) ∧ ∀ i k, i < n → gR g i k = cut n (R0 i k)
set_option maxRecDepth 100000 in
theorem R0_big {i k : Nat} (hi : i < 121) (hk : 40 ≤ k) : R0 i k = none := by
  have h : ((List.range 121).all fun i => Nat.ble (rL.getD i []).length 40) = true := by decide
  have h1 := Nat.le_of_ble_eq_true (List.all_eq_true.1 h i (List.mem_range.2 hi))
  unfold R0
  rw [List.getD_eq_getElem?_getD, List.getElem?_eq_none (by omega)]
  rfl
theorem R0_fn {i : Nat} {F : Nat → Option Nat} (hi : i < 121) (h : ((List.range 40).all fun k => decide (R0 i k = F k)) = true) (hb : ∀ k, 40 ≤ k → F k = none) (k : Nat) : R0 i k = F k := by
  by_cases h1 : k < 40
  · exact of_decide_eq_true (List.all_eq_true.1 h k (List.mem_range.2 h1))
  · rw [R0_big hi (by omega), hb k (by omega)]
def ck1 (n n' o f i k : Nat) : Option Nat → Bool
  | some r => (!(Nat.blt r n') || Nat.blt r n || Nat.ble n i || (Nat.beq i o && Nat.beq k f)) && (!(Nat.ble n i) || Nat.blt r n')
  | none => true
def chk (n n' o f : Nat) : Bool := (List.range n').all fun i => (List.range 40).all fun k => ck1 n n' o f i k (R0 i k)
theorem ck_out {n n' o f i k r : Nat} (hc : chk n n' o f = true) (hn : n' ≤ 121) (hi : i < n') (e : R0 i k = some r) : (r < n' → r < n ∨ n ≤ i ∨ (i = o ∧ k = f)) ∧ (n ≤ i → r < n') := by
  by_cases hk : k < 40
  · have h := List.all_eq_true.1 (List.all_eq_true.1 hc i (List.mem_range.2 hi)) k (List.mem_range.2 hk)
    rw [e] at h
    unfold ck1 at h
    simp only [Bool.and_eq_true, Bool.or_eq_true, Bool.not_eq_true', Nat.blt_eq, Nat.ble_eq, Nat.beq_eq] at h
    refine ⟨fun q => ?_, fun q => ?_⟩
    · obtain ((h1 | h1) | h1) | h1 := h.1
      · exfalso
        rw [← Bool.not_eq_true, Nat.blt_eq] at h1
        exact h1 q
      · exact Or.inl h1
      · exact Or.inr (Or.inl h1)
      · exact Or.inr (Or.inr h1)
    · obtain h1 | h1 := h.2
      · exfalso
        rw [← Bool.not_eq_true, Nat.ble_eq] at h1
        exact h1 q
      · exact h1
  · rw [R0_big (by omega) (by omega)] at e; cases e
theorem Bu_st {n n' o f : Nat} {g g' : Geo} (h : Bu n g) (hX : ∀ i, i < n → gk g' i = gk g i ∧ gR g' i = gR g i) (hz : gz g' = n') (hk : ∀ j, n + j < n' → gk g' (n + j) = kd0 (n + j)) (hR : ∀ j, n + j < n' → ∀ k, gR g' (n + j) k = R0 (n + j) k) (ho : o < n) (hn : n < n') (h121 : n' ≤ 121) (hf : R0 o f = some n) (hc : chk n n' o f = true) : Bu n' (gpR g' o f (some n)) := by
  refine ⟨by rw [gz_p]; exact hz, fun i hi => ?_, fun i k hi => ?_⟩
  · rw [gk_p]
    by_cases h1 : i < n
    · exact (hX i h1).1.trans (h.2.1 i h1)
    · obtain ⟨j, rfl⟩ : ∃ j, i = n + j := ⟨i - n, by omega⟩
      exact hk j hi
  · rw [gR_p]
    by_cases h1 : i < n
    · by_cases e : i = o ∧ k = f
      · obtain ⟨rfl, rfl⟩ := e
        rw [va_up_self, va_up_self, hf]
        rw [cut_s, if_pos hn]
      · have e2 : va_up (gR g') o (va_up (gR g' o) f (some n)) i k = gR g' i k := by
          by_cases e3 : i = o
          · subst e3
            rw [va_up_self, va_up_ne _ _ (fun q => e ⟨rfl, q⟩)]
          · rw [va_up_ne _ _ e3]
        rw [e2, (hX i h1).2, h.2.2 i k h1]
        refine cut_up (by omega) fun r er hr => ?_
        obtain q | q | q := (ck_out hc h121 hi er).1 hr
        · exact q
        · omega
        · exact absurd q e
    · rw [va_up_ne _ _ (by omega)]
      obtain ⟨j, rfl⟩ : ∃ j, i = n + j := ⟨i - n, by omega⟩
      rw [hR j hi k]
      exact cut_id fun r er => (ck_out hc h121 hi er).2 (by omega)
theorem rl_big {a j k : Nat} (h : 40 ≤ k) : rl a 14 j k = none := by
  unfold rl
  repeat' split
  all_goals first | rfl | (exfalso; omega)
def eqL (a : Nat) : Bool := (List.range 20).all fun j => decide (kl j = kd0 (a + j)) && (List.range 40).all fun k => decide (R0 (a + j) k = rl a 14 j k)
theorem Bu_La {a f : Nat} {g g1 : Geo} {I J : IM} (h : Bu a g) (hN : NLd a 14 (galloc g 1 11) g1 I J) (he : eqL a = true) (h0 : 0 < a) (h121 : a + 20 ≤ 121) (hf : R0 0 f = some a) (hc : chk a (a + 20) 0 f = true) : Bu (a + 20) (gpR g1 0 f (some a)) := by
  obtain ⟨n1, n2, n3, n4, n5, n6⟩ := hN
  have hz := h.1
  have q : ∀ j, a + j < a + 20 → kl j = kd0 (a + j) ∧ ∀ k, R0 (a + j) k = rl a 14 j k := fun j hj => by
    have h1 := List.all_eq_true.1 he j (List.mem_range.2 (by omega))
    rw [Bool.and_eq_true] at h1
    exact ⟨of_decide_eq_true h1.1, R0_fn (by omega) h1.2 fun k hk => rl_big hk⟩
  refine Bu_st h (fun i hi => ?_) n2 (fun j hj => ?_) (fun j hj k => ?_) h0 (by omega) h121 hf hc
  · have h1 := n1.2.2 i (by rw [gz_al]; omega)
    refine ⟨h1.1.trans ?_, (h1.2 (by omega)).trans ?_⟩
    · rw [gk_al, va_up_ne _ _ (by omega)]
    · rw [gR_al, va_up_ne _ _ (by omega)]
  · rw [n4 j (by omega)]; exact (q j hj).1
  · rw [n5 j (by omega) k]; exact ((q j hj).2 k).symm
end BU
