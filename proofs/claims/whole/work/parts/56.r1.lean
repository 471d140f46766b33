/-! The class's reader: strings, tokens. -/
section PR1
theorem str_b : ∀ j, j < 14 → ∀ x, x < (strs.getD j []).length → ∀ b, b < 256 → ((strs.getD j []).getD x 0 = (nI b).toInt8.toInt32 ↔ nI b = (strs.getD j []).getD x 0) := by decide +kernel
/-- where a character stands in a string -/
def idx (j : Nat) (b : Int32) : Option Nat := lsq (fun i => decide (b = (strs.getD j []).getD i 0)) 0 (strs.getD j []).length
theorem idx_lt {j i : Nat} {b : Int32} (hj : j < 14) (h : idx j b = some i) : i < 6 := by
  have := (lsq_in h).2.1
  have := str_l6 j hj
  omega
theorem idx_sg {m : Nat} (hm : m < 5) (b : Int32) : idx (9 + m) b = none ↔ sgC m b = none := by
  obtain rfl | rfl | rfl | rfl | rfl : m = 0 ∨ m = 1 ∨ m = 2 ∨ m = 3 ∨ m = 4 := by omega
  · show (if decide (b = nI 124) = true then some 0 else none) = none ↔ (if b = nI 124 then some (-20 : Int32) else none) = none
    by_cases h0 : b = nI 124 <;> simp [h0]
  · show (if decide (b = nI 38) = true then some 0 else none) = none ↔ (if b = nI 38 then some (-21 : Int32) else none) = none
    by_cases h0 : b = nI 38 <;> simp [h0]
  · show (if decide (b = nI 60) = true then some 0 else if decide (b = nI 61) = true then some 1 else if decide (b = nI 62) = true then some 2 else none) = none ↔ (if b = nI 60 then some (-22 : Int32) else if b = nI 61 then some (-23) else if b = nI 62 then some (-24) else none) = none
    by_cases h0 : b = nI 60
    · simp [h0]
    · by_cases h1 : b = nI 61
      · rw [if_neg (by simpa using h0), if_neg h0]; simp [h1]
      · rw [if_neg (by simpa using h0), if_neg h0, if_neg (by simpa using h1), if_neg h1]
        by_cases h2 : b = nI 62 <;> simp [h2]
  · show (if decide (b = nI 43) = true then some 0 else if decide (b = nI 45) = true then some 1 else none) = none ↔ (if b = nI 43 then some (-25 : Int32) else if b = nI 45 then some (-26) else none) = none
    by_cases h0 : b = nI 43
    · simp [h0]
    · rw [if_neg (by simpa using h0), if_neg h0]
      by_cases h1 : b = nI 45 <;> simp [h1]
  · show (if decide (b = nI 42) = true then some 0 else if decide (b = nI 47) = true then some 1 else none) = none ↔ (if b = nI 42 then some (-27 : Int32) else if b = nI 47 then some (-28) else none) = none
    by_cases h0 : b = nI 42
    · simp [h0]
    · rw [if_neg (by simpa using h0), if_neg h0]
      by_cases h1 : b = nI 47 <;> simp [h1]
theorem idx_1 (b : Int32) : (idx 6 b = none ↔ ¬ b = nI 33) ∧ (idx 7 b = none ↔ ¬ b = nI 40) ∧ (idx 8 b = none ↔ ¬ b = nI 41) := by
  refine ⟨?_, ?_, ?_⟩
  · show (if decide (b = nI 33) = true then some 0 else none) = none ↔ _
    by_cases h0 : b = nI 33 <;> simp [h0]
  · show (if decide (b = nI 40) = true then some 0 else none) = none ↔ _
    by_cases h0 : b = nI 40 <;> simp [h0]
  · show (if decide (b = nI 41) = true then some 0 else none) = none ↔ _
    by_cases h0 : b = nI 41 <;> simp [h0]
/-- the class's code for a sign is the model's, put over -/
theorem sgC_tr {m : Nat} {b c : Int32} (h : sgC m b = some c) : -1000 - b = trc c := by
  unfold sgC at h
  split at h <;> (repeat' split at h) <;> first | cases h | skip
  all_goals (rename_i q; first | (subst q; rfl) | (rename_i q2 _; subst q2; rfl))
theorem i2c_b : ∀ b, b < 256 → ((nI b).toUInt32 % 65536).toInt32 = nI b := by decide +kernel
end PR1
section R1
variable {g : Geo} {I : IM} {K : Option Value → Geo → IM → Prop}
theorem T_blenN {d : Nat} {μ : Mth} {pc pc1 : Nat} {L : Lcl} {S : List Value} {P : Option Value → Geo → IM → Prop} {j : Nat} (hf : Fe μ pc .arraylength 1) (hq : pc + 1 = pc1) (hj : j < 14) (kR : Rl d μ pc1 L (.int (nI (strs.getD j []).length) :: S) g I P) : Rl d μ pc L (.ref (1000100 + j) :: S) g I P := T_blen hf hq hj kR
theorem c_Jl_canEncode {b : Nat} (hb : b < 256) (kk : K (some (.int (nI 1))) g I) : Cl 1 M_Jl_canEncode [.int (nI b)] g I K := by
  show Rl 1 M_Jl_canEncode 0 [some (.int (nI b))] [] g I K
  repeat' (first
    | (refine T_iload_n (pc1 := 1) (pc := 0) k_Jl_canEncode_0 rfl rfl ?_ <;> try ((first | (with_reducible refine T_if_ltN (tgt := 15) (pc1 := 4) (pc := 1) k_Jl_canEncode_1 (by decide) (by decide) (by omega) ?_ <;> first | (exfalso; omega) | skip) | refine T_if_lt_t (tgt := 15) (pc := 1) k_Jl_canEncode_1 rfl (by decide) ?_ | refine T_if_lt_f (tgt := 15) (pc1 := 4) (pc := 1) k_Jl_canEncode_1 rfl rfl (by decide) ?_ | refine T_if_lt (tgt := 15) (pc1 := 4) (pc := 1) k_Jl_canEncode_1 rfl rfl (fun hc => ?_) (fun hc => ?_))))
    | (refine T_iload_n (pc1 := 5) (pc := 4) k_Jl_canEncode_4 rfl rfl ?_ <;> try (refine T_sipush (v := (nI 255)) (pc1 := 8) (pc := 5) k_Jl_canEncode_5 rfl (by decide) ?_ <;> try ((first | (with_reducible refine T_icmp_gtN (tgt := 15) (pc1 := 11) (pc := 8) k_Jl_canEncode_8 (by decide) (by decide) (by omega) (by omega) (fun hc => ?_) (fun hc => ?_) <;> first | (exfalso; omega) | skip) | refine T_icmp_gt_t (tgt := 15) (pc := 8) k_Jl_canEncode_8 rfl (by decide) ?_ | refine T_icmp_gt_f (tgt := 15) (pc1 := 11) (pc := 8) k_Jl_canEncode_8 rfl rfl (by decide) ?_ | refine T_icmp_gt (tgt := 15) (pc1 := 11) (pc := 8) k_Jl_canEncode_8 rfl rfl (fun hc => ?_) (fun hc => ?_)))))
    | (refine T_iconst (v := (nI 1)) (pc1 := 12) (pc := 11) k_Jl_canEncode_11 rfl (by decide) ?_ <;> try (refine T_goto (tgt := 16) (pc := 12) k_Jl_canEncode_12 rfl ?_))
    | (refine T_iconst (v := (nI 0)) (pc1 := 16) (pc := 15) k_Jl_canEncode_15 rfl (by decide) ?_)
    | (refine T_retI (pc := 16) k_Jl_canEncode_16 rfl (by first | rfl | decide | assumption) ?_)
    | (with_reducible refine T_if_ltN (tgt := 15) (pc1 := 4) (pc := 1) k_Jl_canEncode_1 (by decide) (by decide) (by omega) ?_ <;> first | (exfalso; omega) | skip)
    | refine T_if_lt_t (tgt := 15) (pc := 1) k_Jl_canEncode_1 rfl (by decide) ?_
    | refine T_if_lt_f (tgt := 15) (pc1 := 4) (pc := 1) k_Jl_canEncode_1 rfl rfl (by decide) ?_
    | refine T_if_lt (tgt := 15) (pc1 := 4) (pc := 1) k_Jl_canEncode_1 rfl rfl (fun hc => ?_) (fun hc => ?_)
    | refine T_sipush (v := (nI 255)) (pc1 := 8) (pc := 5) k_Jl_canEncode_5 rfl (by decide) ?_
    | (with_reducible refine T_icmp_gtN (tgt := 15) (pc1 := 11) (pc := 8) k_Jl_canEncode_8 (by decide) (by decide) (by omega) (by omega) (fun hc => ?_) (fun hc => ?_) <;> first | (exfalso; omega) | skip)
    | refine T_icmp_gt_t (tgt := 15) (pc := 8) k_Jl_canEncode_8 rfl (by decide) ?_
    | refine T_icmp_gt_f (tgt := 15) (pc1 := 11) (pc := 8) k_Jl_canEncode_8 rfl rfl (by decide) ?_
    | refine T_icmp_gt (tgt := 15) (pc1 := 11) (pc := 8) k_Jl_canEncode_8 rfl rfl (fun hc => ?_) (fun hc => ?_)
    | refine T_goto (tgt := 16) (pc := 12) k_Jl_canEncode_12 rfl ?_)
  all_goals first | exact kk | (exfalso; omega)
set_option maxHeartbeats 4000000 in
theorem c_Jl_indexOfChar {j b : Nat} (hj : j < 14) (hb : b < 256) (kk : K (some (.int (opt1 (idx j (nI b))))) g I) : Cl 1 M_Jl_indexOfChar [.ref (1000100 + j), .int (nI b), .int (nI 0), .int (nI (strs.getD j []).length)] g I K := by
  show Rl 1 M_Jl_indexOfChar 0 [some (.ref (1000100 + j)), some (.int (nI b)), some (.int (nI 0)), some (.int (nI (strs.getD j []).length)), none, none] [] g I K
  have h6 := str_l6 j hj
  have sb := str_b j hj
  unfold idx at kk
  generalize hL : (strs.getD j []).length = L at *
  have loop : ∀ q k, k + q = L → lsq (fun i => decide (nI b = (strs.getD j []).getD i 0)) 0 L = lsq (fun i => decide (nI b = (strs.getD j []).getD i 0)) k q → Rl 1 M_Jl_indexOfChar 7 [some (.ref (1000100 + j)), some (.int (nI b)), some (.int (nI 0)), some (.int (nI L)), some (.int (nI b).toInt8.toInt32), some (.int (nI k))] [] g I K := by
    intro q
    induction q with
    | zero =>
      intro k hk hl
      have hk : k = L := by omega
      rw [hl] at kk
      repeat' (first
        | (refine T_iload (pc1 := 9) (pc := 7) k_Jl_indexOfChar_7 rfl rfl ?_ <;> try (refine T_iload_n (pc1 := 10) (pc := 9) k_Jl_indexOfChar_9 rfl rfl ?_ <;> try ((first | (with_reducible refine T_icmp_geN (tgt := 31) (pc1 := 13) (pc := 10) k_Jl_indexOfChar_10 (by decide) (by decide) (by omega) (by omega) (fun hc => ?_) (fun hc => ?_) <;> first | (exfalso; omega) | skip) | refine T_icmp_ge_t (tgt := 31) (pc := 10) k_Jl_indexOfChar_10 rfl (by decide) ?_ | refine T_icmp_ge_f (tgt := 31) (pc1 := 13) (pc := 10) k_Jl_indexOfChar_10 rfl rfl (by decide) ?_ | refine T_icmp_ge (tgt := 31) (pc1 := 13) (pc := 10) k_Jl_indexOfChar_10 rfl rfl (fun hc => ?_) (fun hc => ?_)))))
        | (refine T_iconst (v := (-1)) (pc1 := 32) (pc := 31) k_Jl_indexOfChar_31 rfl (by decide) ?_ <;> try (refine T_retI (pc := 32) k_Jl_indexOfChar_32 rfl (by first | rfl | decide | assumption) ?_))
        | refine T_iload_n (pc1 := 10) (pc := 9) k_Jl_indexOfChar_9 rfl rfl ?_
        | (with_reducible refine T_icmp_geN (tgt := 31) (pc1 := 13) (pc := 10) k_Jl_indexOfChar_10 (by decide) (by decide) (by omega) (by omega) (fun hc => ?_) (fun hc => ?_) <;> first | (exfalso; omega) | skip)
        | refine T_icmp_ge_t (tgt := 31) (pc := 10) k_Jl_indexOfChar_10 rfl (by decide) ?_
        | refine T_icmp_ge_f (tgt := 31) (pc1 := 13) (pc := 10) k_Jl_indexOfChar_10 rfl rfl (by decide) ?_
        | refine T_icmp_ge (tgt := 31) (pc1 := 13) (pc := 10) k_Jl_indexOfChar_10 rfl rfl (fun hc => ?_) (fun hc => ?_)
        | refine T_retI (pc := 32) k_Jl_indexOfChar_32 rfl (by first | rfl | decide | assumption) ?_)
      all_goals first | exact kk | (exfalso; omega)
    | succ q ih =>
      intro k hk hl
      have hin : vp_in (nI k) (strs.getD j []).length := vp_in_nI (by omega) (by omega)
      have ck : (nI k).toNatClampNeg = k := nI_clamp (by omega)
      have el : lsq (fun i => decide (nI b = (strs.getD j []).getD i 0)) k (q + 1) = if decide (nI b = (strs.getD j []).getD k 0) = true then some k else lsq (fun i => decide (nI b = (strs.getD j []).getD i 0)) (k + 1) q := rfl
      rw [el] at hl
      have sk := sb k (by omega) b hb
      refine T_iload (pc1 := 9) (pc := 7) k_Jl_indexOfChar_7 rfl rfl ?_
      repeat' (first
        | (refine T_iload_n (pc1 := 10) (pc := 9) k_Jl_indexOfChar_9 rfl rfl ?_ <;> try ((first | (with_reducible refine T_icmp_geN (tgt := 31) (pc1 := 13) (pc := 10) k_Jl_indexOfChar_10 (by decide) (by decide) (by omega) (by omega) (fun hc => ?_) (fun hc => ?_) <;> first | (exfalso; omega) | skip) | refine T_icmp_ge_t (tgt := 31) (pc := 10) k_Jl_indexOfChar_10 rfl (by decide) ?_ | refine T_icmp_ge_f (tgt := 31) (pc1 := 13) (pc := 10) k_Jl_indexOfChar_10 rfl rfl (by decide) ?_ | refine T_icmp_ge (tgt := 31) (pc1 := 13) (pc := 10) k_Jl_indexOfChar_10 rfl rfl (fun hc => ?_) (fun hc => ?_))))
        | ((first | refine T_aload_n (pc1 := 14) (pc := 13) k_Jl_indexOfChar_13 rfl rfl ?_ | refine T_aload_nN (pc1 := 14) (pc := 13) k_Jl_indexOfChar_13 rfl rfl ?_) <;> try (refine T_iload (pc1 := 16) (pc := 14) k_Jl_indexOfChar_14 rfl rfl ?_ <;> try ((refine T_bald (pc1 := 17) (pc := 16) k_Jl_indexOfChar_16 rfl (by omega) hin ?_; rw [ck]) <;> try (refine T_iload (pc1 := 19) (pc := 17) k_Jl_indexOfChar_17 rfl rfl ?_ <;> try (refine T_icmp_ne (tgt := 25) (pc1 := 22) (pc := 19) k_Jl_indexOfChar_19 rfl rfl (fun hcE => ?_) (fun hcE => ?_))))))
        | (refine T_iload (pc1 := 24) (pc := 22) k_Jl_indexOfChar_22 rfl rfl ?_ <;> try (refine T_retI (pc := 24) k_Jl_indexOfChar_24 rfl (by first | rfl | decide | assumption) ?_))
        | ((first | refine T_iincN (b := 1) (pc1 := 28) (pc := 25) k_Jl_indexOfChar_25 rfl rfl (by decide) ?_ | refine T_iinc (v := (nI 1)) (pc1 := 28) (pc := 25) k_Jl_indexOfChar_25 rfl rfl (by decide) ?_) <;> try (refine T_goto (tgt := 7) (pc := 28) k_Jl_indexOfChar_28 rfl ?_))
        | (with_reducible refine T_icmp_geN (tgt := 31) (pc1 := 13) (pc := 10) k_Jl_indexOfChar_10 (by decide) (by decide) (by omega) (by omega) (fun hc => ?_) (fun hc => ?_) <;> first | (exfalso; omega) | skip)
        | refine T_icmp_ge_t (tgt := 31) (pc := 10) k_Jl_indexOfChar_10 rfl (by decide) ?_
        | refine T_icmp_ge_f (tgt := 31) (pc1 := 13) (pc := 10) k_Jl_indexOfChar_10 rfl rfl (by decide) ?_
        | refine T_icmp_ge (tgt := 31) (pc1 := 13) (pc := 10) k_Jl_indexOfChar_10 rfl rfl (fun hc => ?_) (fun hc => ?_)
        | refine T_iload (pc1 := 16) (pc := 14) k_Jl_indexOfChar_14 rfl rfl ?_
        | (refine T_bald (pc1 := 17) (pc := 16) k_Jl_indexOfChar_16 rfl (by omega) hin ?_; rw [ck])
        | refine T_iload (pc1 := 19) (pc := 17) k_Jl_indexOfChar_17 rfl rfl ?_
        | refine T_icmp_ne (tgt := 25) (pc1 := 22) (pc := 19) k_Jl_indexOfChar_19 rfl rfl (fun hcE => ?_) (fun hcE => ?_)
        | refine T_retI (pc := 24) k_Jl_indexOfChar_24 rfl (by first | rfl | decide | assumption) ?_
        | refine T_goto (tgt := 7) (pc := 28) k_Jl_indexOfChar_28 rfl ?_)
      all_goals try (exfalso; omega)
      · rw [if_neg (by rw [decide_eq_true_eq]; exact fun q => hcE (sk.mpr q))] at hl
        exact ih (k + 1) (by omega) hl
      · rw [if_pos (by rw [decide_eq_true_eq]; exact sk.mp (Decidable.not_not.mp hcE))] at hl
        rw [hl] at kk
        exact kk
  repeat' (first
    | (refine T_iload_n (pc1 := 1) (pc := 0) k_Jl_indexOfChar_0 rfl rfl ?_ <;> try (refine T_i2b (pc1 := 2) (pc := 1) k_Jl_indexOfChar_1 rfl ?_ <;> try (refine T_istore (pc1 := 4) (pc := 2) k_Jl_indexOfChar_2 rfl (Nat.le_of_ble_eq_true rfl) ?_ <;> try (refine T_iload_n (pc1 := 5) (pc := 4) k_Jl_indexOfChar_4 rfl rfl ?_ <;> try (refine T_istore (pc1 := 7) (pc := 5) k_Jl_indexOfChar_5 rfl (Nat.le_of_ble_eq_true rfl) ?_)))))
    | refine T_i2b (pc1 := 2) (pc := 1) k_Jl_indexOfChar_1 rfl ?_
    | refine T_istore (pc1 := 4) (pc := 2) k_Jl_indexOfChar_2 rfl (Nat.le_of_ble_eq_true rfl) ?_
    | refine T_iload_n (pc1 := 5) (pc := 4) k_Jl_indexOfChar_4 rfl rfl ?_
    | refine T_istore (pc1 := 7) (pc := 5) k_Jl_indexOfChar_5 rfl (Nat.le_of_ble_eq_true rfl) ?_)
  exact loop L 0 (by omega) rfl
theorem str_p : ∀ j, j < 14 → 0 < (strs.getD j []).length := by decide +kernel
theorem c_Jl_indexOf {j b : Nat} (hj : j < 14) (hb : b < 256) (kk : K (some (.int (opt1 (idx j (nI b))))) g I) : Cl 2 M_Jl_indexOf [.ref (1000100 + j), .int (nI b), .int (nI 0), .int (nI (strs.getD j []).length)] g I K := by
  show Rl 2 M_Jl_indexOf 0 [some (.ref (1000100 + j)), some (.int (nI b)), some (.int (nI 0)), some (.int (nI (strs.getD j []).length))] [] g I K
  have h6 := str_l6 j hj
  have hp := str_p j hj
  repeat' (first
    | (refine T_iload_n (pc1 := 1) (pc := 0) k_Jl_indexOf_0 rfl rfl ?_ <;> try ((refine T_cS (As := [_]) (d1 := 1) (pc1 := 4) (pc := 1) k_Jl_indexOf_1 rfl (by decide) (Nat.le_of_ble_eq_true rfl) rfl o_Jl_canEncode l_Jl_88 rfl (c_Jl_canEncode (by omega) ?_) <;> try dsimp only [psh]) <;> try ((first | (with_reducible refine T_if_neN (tgt := 9) (pc1 := 7) (pc := 4) k_Jl_indexOf_4 (by decide) (by decide) (by omega) (fun hc => ?_) (fun hc => ?_) <;> first | (exfalso; omega) | skip) | refine T_if_ne_t (tgt := 9) (pc := 4) k_Jl_indexOf_4 rfl (by decide) ?_ | refine T_if_ne_f (tgt := 9) (pc1 := 7) (pc := 4) k_Jl_indexOf_4 rfl rfl (by decide) ?_ | refine T_if_ne (tgt := 9) (pc1 := 7) (pc := 4) k_Jl_indexOf_4 rfl rfl (fun hc => ?_) (fun hc => ?_)))))
    | (refine T_iconst (v := (-1)) (pc1 := 8) (pc := 7) k_Jl_indexOf_7 rfl (by decide) ?_ <;> try (refine T_retI (pc := 8) k_Jl_indexOf_8 rfl (by first | rfl | decide | assumption) ?_))
    | (refine T_iload_n (pc1 := 10) (pc := 9) k_Jl_indexOf_9 rfl rfl ?_ <;> try (refine T_iconst (v := (nI 0)) (pc1 := 11) (pc := 10) k_Jl_indexOf_10 rfl (by decide) ?_ <;> try ((refine T_mmaxN (pc1 := 14) (pc := 11) k_Jl_indexOf_11 rfl l_Jl_92 (by decide) (Nat.le_of_ble_eq_true rfl) (by omega) (by omega) ?_; rw [show max 0 0 = 0 from rfl]) <;> try (refine T_istore_n (pc1 := 15) (pc := 14) k_Jl_indexOf_14 rfl (Nat.le_of_ble_eq_true rfl) ?_ <;> try (refine T_iload_n (pc1 := 16) (pc := 15) k_Jl_indexOf_15 rfl rfl ?_ <;> try ((first | refine T_aload_n (pc1 := 17) (pc := 16) k_Jl_indexOf_16 rfl rfl ?_ | refine T_aload_nN (pc1 := 17) (pc := 16) k_Jl_indexOf_16 rfl rfl ?_) <;> try (refine T_blenN (pc1 := 18) (pc := 17) k_Jl_indexOf_17 rfl (by omega) ?_ <;> try ((refine T_mminN (pc1 := 21) (pc := 18) k_Jl_indexOf_18 rfl l_Jl_38 (by decide) (Nat.le_of_ble_eq_true rfl) (by omega) (by omega) ?_; rw [Nat.min_self]) <;> try (refine T_istore_n (pc1 := 22) (pc := 21) k_Jl_indexOf_21 rfl (Nat.le_of_ble_eq_true rfl) ?_ <;> try (refine T_iload_n (pc1 := 23) (pc := 22) k_Jl_indexOf_22 rfl rfl ?_ <;> try (refine T_iload_n (pc1 := 24) (pc := 23) k_Jl_indexOf_23 rfl rfl ?_ <;> try ((first | (with_reducible refine T_icmp_ltN (tgt := 29) (pc1 := 27) (pc := 24) k_Jl_indexOf_24 (by decide) (by decide) (by omega) (by omega) (fun hc => ?_) (fun hc => ?_) <;> first | (exfalso; omega) | skip) | refine T_icmp_lt_t (tgt := 29) (pc := 24) k_Jl_indexOf_24 rfl (by decide) ?_ | refine T_icmp_lt_f (tgt := 29) (pc1 := 27) (pc := 24) k_Jl_indexOf_24 rfl rfl (by decide) ?_ | refine T_icmp_lt (tgt := 29) (pc1 := 27) (pc := 24) k_Jl_indexOf_24 rfl rfl (fun hc => ?_) (fun hc => ?_))))))))))))))
    | (refine T_iconst (v := (-1)) (pc1 := 28) (pc := 27) k_Jl_indexOf_27 rfl (by decide) ?_ <;> try (refine T_retI (pc := 28) k_Jl_indexOf_28 rfl (by first | rfl | decide | assumption) ?_))
    | ((first | refine T_aload_n (pc1 := 30) (pc := 29) k_Jl_indexOf_29 rfl rfl ?_ | refine T_aload_nN (pc1 := 30) (pc := 29) k_Jl_indexOf_29 rfl rfl ?_) <;> try (refine T_iload_n (pc1 := 31) (pc := 30) k_Jl_indexOf_30 rfl rfl ?_ <;> try (refine T_iload_n (pc1 := 32) (pc := 31) k_Jl_indexOf_31 rfl rfl ?_ <;> try (refine T_iload_n (pc1 := 33) (pc := 32) k_Jl_indexOf_32 rfl rfl ?_ <;> try ((refine T_cS (As := [_, _, _, _]) (d1 := 1) (pc1 := 36) (pc := 33) k_Jl_indexOf_33 rfl (by decide) (Nat.le_of_ble_eq_true rfl) rfl o_Jl_indexOfChar l_Jl_95 rfl (c_Jl_indexOfChar hj hb ?_) <;> try dsimp only [psh]) <;> try (refine T_retI (pc := 36) k_Jl_indexOf_36 rfl (by first | rfl | decide | assumption) ?_))))))
    | (refine T_cS (As := [_]) (d1 := 1) (pc1 := 4) (pc := 1) k_Jl_indexOf_1 rfl (by decide) (Nat.le_of_ble_eq_true rfl) rfl o_Jl_canEncode l_Jl_88 rfl (c_Jl_canEncode (by omega) ?_) <;> try dsimp only [psh])
    | (with_reducible refine T_if_neN (tgt := 9) (pc1 := 7) (pc := 4) k_Jl_indexOf_4 (by decide) (by decide) (by omega) (fun hc => ?_) (fun hc => ?_) <;> first | (exfalso; omega) | skip)
    | refine T_if_ne_t (tgt := 9) (pc := 4) k_Jl_indexOf_4 rfl (by decide) ?_
    | refine T_if_ne_f (tgt := 9) (pc1 := 7) (pc := 4) k_Jl_indexOf_4 rfl rfl (by decide) ?_
    | refine T_if_ne (tgt := 9) (pc1 := 7) (pc := 4) k_Jl_indexOf_4 rfl rfl (fun hc => ?_) (fun hc => ?_)
    | refine T_retI (pc := 8) k_Jl_indexOf_8 rfl (by first | rfl | decide | assumption) ?_
    | refine T_iconst (v := (nI 0)) (pc1 := 11) (pc := 10) k_Jl_indexOf_10 rfl (by decide) ?_
    | (refine T_mmaxN (pc1 := 14) (pc := 11) k_Jl_indexOf_11 rfl l_Jl_92 (by decide) (Nat.le_of_ble_eq_true rfl) (by omega) (by omega) ?_; rw [show max 0 0 = 0 from rfl])
    | refine T_istore_n (pc1 := 15) (pc := 14) k_Jl_indexOf_14 rfl (Nat.le_of_ble_eq_true rfl) ?_
    | refine T_iload_n (pc1 := 16) (pc := 15) k_Jl_indexOf_15 rfl rfl ?_
    | refine T_aload_n (pc1 := 17) (pc := 16) k_Jl_indexOf_16 rfl rfl ?_
    | refine T_aload_nN (pc1 := 17) (pc := 16) k_Jl_indexOf_16 rfl rfl ?_
    | refine T_blenN (pc1 := 18) (pc := 17) k_Jl_indexOf_17 rfl (by omega) ?_
    | (refine T_mminN (pc1 := 21) (pc := 18) k_Jl_indexOf_18 rfl l_Jl_38 (by decide) (Nat.le_of_ble_eq_true rfl) (by omega) (by omega) ?_; rw [Nat.min_self])
    | refine T_istore_n (pc1 := 22) (pc := 21) k_Jl_indexOf_21 rfl (Nat.le_of_ble_eq_true rfl) ?_
    | refine T_iload_n (pc1 := 23) (pc := 22) k_Jl_indexOf_22 rfl rfl ?_
    | refine T_iload_n (pc1 := 24) (pc := 23) k_Jl_indexOf_23 rfl rfl ?_
    | (with_reducible refine T_icmp_ltN (tgt := 29) (pc1 := 27) (pc := 24) k_Jl_indexOf_24 (by decide) (by decide) (by omega) (by omega) (fun hc => ?_) (fun hc => ?_) <;> first | (exfalso; omega) | skip)
    | refine T_icmp_lt_t (tgt := 29) (pc := 24) k_Jl_indexOf_24 rfl (by decide) ?_
    | refine T_icmp_lt_f (tgt := 29) (pc1 := 27) (pc := 24) k_Jl_indexOf_24 rfl rfl (by decide) ?_
    | refine T_icmp_lt (tgt := 29) (pc1 := 27) (pc := 24) k_Jl_indexOf_24 rfl rfl (fun hc => ?_) (fun hc => ?_)
    | refine T_retI (pc := 28) k_Jl_indexOf_28 rfl (by first | rfl | decide | assumption) ?_
    | refine T_iload_n (pc1 := 31) (pc := 30) k_Jl_indexOf_30 rfl rfl ?_
    | refine T_iload_n (pc1 := 32) (pc := 31) k_Jl_indexOf_31 rfl rfl ?_
    | refine T_iload_n (pc1 := 33) (pc := 32) k_Jl_indexOf_32 rfl rfl ?_
    | (refine T_cS (As := [_, _, _, _]) (d1 := 1) (pc1 := 36) (pc := 33) k_Jl_indexOf_33 rfl (by decide) (Nat.le_of_ble_eq_true rfl) rfl o_Jl_indexOfChar l_Jl_95 rfl (c_Jl_indexOfChar hj hb ?_) <;> try dsimp only [psh])
    | refine T_retI (pc := 36) k_Jl_indexOf_36 rfl (by first | rfl | decide | assumption) ?_)
  all_goals first | exact kk | (exfalso; omega)
theorem c_Js_indexOf2 {j b : Nat} (hj : j < 14) (hb : b < 256) (kk : K (some (.int (opt1 (idx j (nI b))))) g I) : Cl 3 M_Js_indexOf2 [.ref (1000000 + j), .int (nI b), .int (nI 0)] g I K := by
  show Rl 3 M_Js_indexOf2 0 [some (.ref (1000000 + j)), some (.int (nI b)), some (.int (nI 0))] [] g I K
  repeat' (first
    | ((first | refine T_aload_n (pc1 := 1) (pc := 0) k_Js_indexOf2_0 rfl rfl ?_ | refine T_aload_nN (pc1 := 1) (pc := 0) k_Js_indexOf2_0 rfl rfl ?_) <;> try ((refine T_cT (As := []) (d1 := 1) (pc1 := 4) (pc := 1) k_Js_indexOf2_1 rfl (by decide) (Nat.le_of_ble_eq_true rfl) rfl o_Js_isLatin1 l_Js_492 (by omega) rfl (c_Js_isLatin1 (by omega) ?_) <;> try dsimp only [psh]) <;> try ((first | (with_reducible refine T_if_eqN (tgt := 23) (pc1 := 7) (pc := 4) k_Js_indexOf2_4 (by decide) (by decide) (by omega) (fun hc => ?_) (fun hc => ?_) <;> first | (exfalso; omega) | skip) | refine T_if_eq_t (tgt := 23) (pc := 4) k_Js_indexOf2_4 rfl (by decide) ?_ | refine T_if_eq_f (tgt := 23) (pc1 := 7) (pc := 4) k_Js_indexOf2_4 rfl rfl (by decide) ?_ | refine T_if_eq (tgt := 23) (pc1 := 7) (pc := 4) k_Js_indexOf2_4 rfl rfl (fun hc => ?_) (fun hc => ?_)))))
    | ((first | refine T_aload_n (pc1 := 8) (pc := 7) k_Js_indexOf2_7 rfl rfl ?_ | refine T_aload_nN (pc1 := 8) (pc := 7) k_Js_indexOf2_7 rfl rfl ?_) <;> try (refine T_strV (pc1 := 11) (pc := 8) k_Js_indexOf2_8 rfl f_Js_9 (by omega) ?_ <;> try (refine T_iload_n (pc1 := 12) (pc := 11) k_Js_indexOf2_11 rfl rfl ?_ <;> try (refine T_iload_n (pc1 := 13) (pc := 12) k_Js_indexOf2_12 rfl rfl ?_ <;> try ((first | refine T_aload_n (pc1 := 14) (pc := 13) k_Js_indexOf2_13 rfl rfl ?_ | refine T_aload_nN (pc1 := 14) (pc := 13) k_Js_indexOf2_13 rfl rfl ?_) <;> try ((refine T_cT (As := []) (d1 := 2) (pc1 := 17) (pc := 14) k_Js_indexOf2_14 rfl (by decide) (Nat.le_of_ble_eq_true rfl) rfl o_Js_length l_Js_505 (by omega) rfl (c_Js_length (by omega) ?_) <;> try dsimp only [psh]) <;> try ((refine T_cS (As := [_, _, _, _]) (d1 := 2) (pc1 := 20) (pc := 17) k_Js_indexOf2_17 rfl (by decide) (Nat.le_of_ble_eq_true rfl) rfl o_Jl_indexOf l_Js_637 rfl (c_Jl_indexOf (by omega) (by omega) ?_) <;> try dsimp only [psh]) <;> try (refine T_goto (tgt := 36) (pc := 20) k_Js_indexOf2_20 rfl ?_))))))))
    | ((first | refine T_aload_n (pc1 := 24) (pc := 23) k_Js_indexOf2_23 rfl rfl ?_ | refine T_aload_nN (pc1 := 24) (pc := 23) k_Js_indexOf2_23 rfl rfl ?_) <;> try (refine T_strV (pc1 := 27) (pc := 24) k_Js_indexOf2_24 rfl f_Js_9 (by omega) ?_ <;> try (refine T_iload_n (pc1 := 28) (pc := 27) k_Js_indexOf2_27 rfl rfl ?_ <;> try (refine T_iload_n (pc1 := 29) (pc := 28) k_Js_indexOf2_28 rfl rfl ?_ <;> try ((first | refine T_aload_n (pc1 := 30) (pc := 29) k_Js_indexOf2_29 rfl rfl ?_ | refine T_aload_nN (pc1 := 30) (pc := 29) k_Js_indexOf2_29 rfl rfl ?_) <;> try ((refine T_cT (As := []) (d1 := 2) (pc1 := 33) (pc := 30) k_Js_indexOf2_30 rfl (by decide) (Nat.le_of_ble_eq_true rfl) rfl o_Js_length l_Js_505 (by omega) rfl (c_Js_length (by omega) ?_) <;> try dsimp only [psh])))))))
    | (refine T_retI (pc := 36) k_Js_indexOf2_36 rfl (by first | rfl | decide | assumption) ?_)
    | (refine T_cT (As := []) (d1 := 1) (pc1 := 4) (pc := 1) k_Js_indexOf2_1 rfl (by decide) (Nat.le_of_ble_eq_true rfl) rfl o_Js_isLatin1 l_Js_492 (by omega) rfl (c_Js_isLatin1 (by omega) ?_) <;> try dsimp only [psh])
    | (with_reducible refine T_if_eqN (tgt := 23) (pc1 := 7) (pc := 4) k_Js_indexOf2_4 (by decide) (by decide) (by omega) (fun hc => ?_) (fun hc => ?_) <;> first | (exfalso; omega) | skip)
    | refine T_if_eq_t (tgt := 23) (pc := 4) k_Js_indexOf2_4 rfl (by decide) ?_
    | refine T_if_eq_f (tgt := 23) (pc1 := 7) (pc := 4) k_Js_indexOf2_4 rfl rfl (by decide) ?_
    | refine T_if_eq (tgt := 23) (pc1 := 7) (pc := 4) k_Js_indexOf2_4 rfl rfl (fun hc => ?_) (fun hc => ?_)
    | refine T_strV (pc1 := 11) (pc := 8) k_Js_indexOf2_8 rfl f_Js_9 (by omega) ?_
    | refine T_iload_n (pc1 := 12) (pc := 11) k_Js_indexOf2_11 rfl rfl ?_
    | refine T_iload_n (pc1 := 13) (pc := 12) k_Js_indexOf2_12 rfl rfl ?_
    | refine T_aload_n (pc1 := 14) (pc := 13) k_Js_indexOf2_13 rfl rfl ?_
    | refine T_aload_nN (pc1 := 14) (pc := 13) k_Js_indexOf2_13 rfl rfl ?_
    | (refine T_cT (As := []) (d1 := 2) (pc1 := 17) (pc := 14) k_Js_indexOf2_14 rfl (by decide) (Nat.le_of_ble_eq_true rfl) rfl o_Js_length l_Js_505 (by omega) rfl (c_Js_length (by omega) ?_) <;> try dsimp only [psh])
    | (refine T_cS (As := [_, _, _, _]) (d1 := 2) (pc1 := 20) (pc := 17) k_Js_indexOf2_17 rfl (by decide) (Nat.le_of_ble_eq_true rfl) rfl o_Jl_indexOf l_Js_637 rfl (c_Jl_indexOf (by omega) (by omega) ?_) <;> try dsimp only [psh])
    | refine T_goto (tgt := 36) (pc := 20) k_Js_indexOf2_20 rfl ?_
    | refine T_strV (pc1 := 27) (pc := 24) k_Js_indexOf2_24 rfl f_Js_9 (by omega) ?_
    | refine T_iload_n (pc1 := 28) (pc := 27) k_Js_indexOf2_27 rfl rfl ?_
    | refine T_iload_n (pc1 := 29) (pc := 28) k_Js_indexOf2_28 rfl rfl ?_
    | refine T_aload_n (pc1 := 30) (pc := 29) k_Js_indexOf2_29 rfl rfl ?_
    | refine T_aload_nN (pc1 := 30) (pc := 29) k_Js_indexOf2_29 rfl rfl ?_
    | (refine T_cT (As := []) (d1 := 2) (pc1 := 33) (pc := 30) k_Js_indexOf2_30 rfl (by decide) (Nat.le_of_ble_eq_true rfl) rfl o_Js_length l_Js_505 (by omega) rfl (c_Js_length (by omega) ?_) <;> try dsimp only [psh]))
  exact kk
theorem c_Js_indexOf {j b : Nat} (hj : j < 14) (hb : b < 256) (kk : K (some (.int (opt1 (idx j (nI b))))) g I) : Cl 4 M_Js_indexOf [.ref (1000000 + j), .int (nI b)] g I K := by
  show Rl 4 M_Js_indexOf 0 [some (.ref (1000000 + j)), some (.int (nI b))] [] g I K
  repeat' (first
    | ((first | refine T_aload_n (pc1 := 1) (pc := 0) k_Js_indexOf_0 rfl rfl ?_ | refine T_aload_nN (pc1 := 1) (pc := 0) k_Js_indexOf_0 rfl rfl ?_) <;> try (refine T_iload_n (pc1 := 2) (pc := 1) k_Js_indexOf_1 rfl rfl ?_ <;> try (refine T_iconst (v := (nI 0)) (pc1 := 3) (pc := 2) k_Js_indexOf_2 rfl (by decide) ?_ <;> try ((refine T_cT (As := [_, _]) (d1 := 3) (pc1 := 6) (pc := 3) k_Js_indexOf_3 rfl (by decide) (Nat.le_of_ble_eq_true rfl) rfl o_Js_indexOf2 l_Js_633 (by omega) rfl (c_Js_indexOf2 (by omega) (by omega) ?_) <;> try dsimp only [psh]) <;> try (refine T_retI (pc := 6) k_Js_indexOf_6 rfl (by first | rfl | decide | assumption) ?_)))))
    | refine T_iload_n (pc1 := 2) (pc := 1) k_Js_indexOf_1 rfl rfl ?_
    | refine T_iconst (v := (nI 0)) (pc1 := 3) (pc := 2) k_Js_indexOf_2 rfl (by decide) ?_
    | (refine T_cT (As := [_, _]) (d1 := 3) (pc1 := 6) (pc := 3) k_Js_indexOf_3 rfl (by decide) (Nat.le_of_ble_eq_true rfl) rfl o_Js_indexOf2 l_Js_633 (by omega) rfl (c_Js_indexOf2 (by omega) (by omega) ?_) <;> try dsimp only [psh])
    | refine T_retI (pc := 6) k_Js_indexOf_6 rfl (by first | rfl | decide | assumption) ?_)
  exact kk
theorem c_Re_sortAt {T : Row} {z k : Nat} (G : GeoOK g) (okt : okTp T z) (hT : CT I T z) (hk : k ≤ 1000) (kk : K (some (.int (nI (srt T z k)))) g I) : Cl 1 M_Re_sortAt [.ref 66, .int (nI k)] g I K := by
  show Rl 1 M_Re_sortAt 0 [some (.ref 66), some (.int (nI k)), none] [] g I K
  obtain ⟨h1, h2⟩ := id hT
  have h96 := okt.1
  by_cases hkz : k < z
  · obtain ⟨b, hb, eb⟩ := rg_of (okt.2 k hkz) (by omega)
    have ev : I 68 k = nI b := (h2 k hkz).trans eb
    unfold srt byA at kk
    rw [if_pos hkz, eb] at kk
    unfold sOf at kk
    rw [nI_toInt (by omega), if_neg (by omega)] at kk
    repeat' (first
      | (refine T_iload_n (pc1 := 1) (pc := 0) k_Re_sortAt_0 rfl rfl ?_ <;> try ((first | refine T_aload_n (pc1 := 2) (pc := 1) k_Re_sortAt_1 rfl rfl ?_ | refine T_aload_nN (pc1 := 2) (pc := 1) k_Re_sortAt_1 rfl rfl ?_) <;> try (refine T_getR (pc1 := 5) (pc := 2) k_Re_sortAt_2 rfl f_Re_12 rfl (by first | assumption | exact ga G (by decide) rfl | exact lgA LG (by omega)) (by first | assumption | exact gr G (by decide) rfl | exact lgR LG (by omega)) ?_ <;> try (refine T_getV (pc1 := 8) (pc := 5) k_Re_sortAt_5 rfl f_Re_150 rfl (by first | assumption | exact ga G (by decide) rfl | exact lgA LG (by omega)) (by first | assumption | (simp (disch := omega) only [pI_eq, pI_row, pI_col, va_up_self, va_up_ne, ne_eq, not_false_eq_true] <;> rfl) | rfl) ?_ <;> try ((first | (with_reducible refine T_icmp_ltN (tgt := 13) (pc1 := 11) (pc := 8) k_Re_sortAt_8 (by decide) (by decide) (by omega) (by omega) (fun hc => ?_) (fun hc => ?_) <;> first | (exfalso; omega) | skip) | refine T_icmp_lt_t (tgt := 13) (pc := 8) k_Re_sortAt_8 rfl (by decide) ?_ | refine T_icmp_lt_f (tgt := 13) (pc1 := 11) (pc := 8) k_Re_sortAt_8 rfl rfl (by decide) ?_ | refine T_icmp_lt (tgt := 13) (pc1 := 11) (pc := 8) k_Re_sortAt_8 rfl rfl (fun hc => ?_) (fun hc => ?_)))))))
      | (refine T_iconst (v := (nI 0)) (pc1 := 12) (pc := 11) k_Re_sortAt_11 rfl (by decide) ?_ <;> try (refine T_retI (pc := 12) k_Re_sortAt_12 rfl (by first | rfl | decide | assumption) ?_))
      | ((first | refine T_aload_n (pc1 := 14) (pc := 13) k_Re_sortAt_13 rfl rfl ?_ | refine T_aload_nN (pc1 := 14) (pc := 13) k_Re_sortAt_13 rfl rfl ?_) <;> try (refine T_getR (pc1 := 17) (pc := 14) k_Re_sortAt_14 rfl f_Re_12 rfl (by first | assumption | exact ga G (by decide) rfl | exact lgA LG (by omega)) (by first | assumption | exact gr G (by decide) rfl | exact lgR LG (by omega)) ?_ <;> try (refine T_getR (pc1 := 20) (pc := 17) k_Re_sortAt_17 rfl f_Re_89 rfl (by first | assumption | exact ga G (by decide) rfl | exact lgA LG (by omega)) (by first | assumption | exact gr G (by decide) rfl | exact lgR LG (by omega)) ?_ <;> try (refine T_iload_n (pc1 := 21) (pc := 20) k_Re_sortAt_20 rfl rfl ?_ <;> try ((first | refine T_ialdN (pc1 := 22) (pc := 21) k_Re_sortAt_21 rfl (by first | assumption | exact ga G (by decide) rfl | exact lgA LG (by omega)) (by omega) (by omega) (by first | assumption | (simp (disch := omega) only [pI_eq, pI_row, pI_col, va_up_self, va_up_ne, ne_eq, not_false_eq_true] <;> rfl) | rfl) ?_ | refine T_iald (pc1 := 22) (pc := 21) k_Re_sortAt_21 rfl (by first | assumption | exact ga G (by decide) rfl | exact lgA LG (by omega)) (by assumption) ?_) <;> try (refine T_istore_n (pc1 := 23) (pc := 22) k_Re_sortAt_22 rfl (Nat.le_of_ble_eq_true rfl) ?_ <;> try (refine T_iload_n (pc1 := 24) (pc := 23) k_Re_sortAt_23 rfl rfl ?_ <;> try (refine T_bipush (v := (nI 97)) (pc1 := 26) (pc := 24) k_Re_sortAt_24 rfl (by decide) ?_ <;> try ((first | (with_reducible refine T_icmp_ltN (tgt := 37) (pc1 := 29) (pc := 26) k_Re_sortAt_26 (by decide) (by decide) (by omega) (by omega) (fun hc => ?_) (fun hc => ?_) <;> first | (exfalso; omega) | skip) | refine T_icmp_lt_t (tgt := 37) (pc := 26) k_Re_sortAt_26 rfl (by decide) ?_ | refine T_icmp_lt_f (tgt := 37) (pc1 := 29) (pc := 26) k_Re_sortAt_26 rfl rfl (by decide) ?_ | refine T_icmp_lt (tgt := 37) (pc1 := 29) (pc := 26) k_Re_sortAt_26 rfl rfl (fun hc => ?_) (fun hc => ?_)))))))))))
      | (refine T_iload_n (pc1 := 30) (pc := 29) k_Re_sortAt_29 rfl rfl ?_ <;> try (refine T_bipush (v := (nI 122)) (pc1 := 32) (pc := 30) k_Re_sortAt_30 rfl (by decide) ?_ <;> try ((first | (with_reducible refine T_icmp_gtN (tgt := 37) (pc1 := 35) (pc := 32) k_Re_sortAt_32 (by decide) (by decide) (by omega) (by omega) (fun hc => ?_) (fun hc => ?_) <;> first | (exfalso; omega) | skip) | refine T_icmp_gt_t (tgt := 37) (pc := 32) k_Re_sortAt_32 rfl (by decide) ?_ | refine T_icmp_gt_f (tgt := 37) (pc1 := 35) (pc := 32) k_Re_sortAt_32 rfl rfl (by decide) ?_ | refine T_icmp_gt (tgt := 37) (pc1 := 35) (pc := 32) k_Re_sortAt_32 rfl rfl (fun hc => ?_) (fun hc => ?_)))))
      | (refine T_iconst (v := (nI 1)) (pc1 := 36) (pc := 35) k_Re_sortAt_35 rfl (by decide) ?_ <;> try (refine T_retI (pc := 36) k_Re_sortAt_36 rfl (by first | rfl | decide | assumption) ?_))
      | (refine T_iload_n (pc1 := 38) (pc := 37) k_Re_sortAt_37 rfl rfl ?_ <;> try (refine T_bipush (v := (nI 48)) (pc1 := 40) (pc := 38) k_Re_sortAt_38 rfl (by decide) ?_ <;> try ((first | (with_reducible refine T_icmp_ltN (tgt := 53) (pc1 := 43) (pc := 40) k_Re_sortAt_40 (by decide) (by decide) (by omega) (by omega) (fun hc => ?_) (fun hc => ?_) <;> first | (exfalso; omega) | skip) | refine T_icmp_lt_t (tgt := 53) (pc := 40) k_Re_sortAt_40 rfl (by decide) ?_ | refine T_icmp_lt_f (tgt := 53) (pc1 := 43) (pc := 40) k_Re_sortAt_40 rfl rfl (by decide) ?_ | refine T_icmp_lt (tgt := 53) (pc1 := 43) (pc := 40) k_Re_sortAt_40 rfl rfl (fun hc => ?_) (fun hc => ?_)))))
      | (refine T_iload_n (pc1 := 44) (pc := 43) k_Re_sortAt_43 rfl rfl ?_ <;> try (refine T_bipush (v := (nI 57)) (pc1 := 46) (pc := 44) k_Re_sortAt_44 rfl (by decide) ?_ <;> try ((first | (with_reducible refine T_icmp_gtN (tgt := 53) (pc1 := 49) (pc := 46) k_Re_sortAt_46 (by decide) (by decide) (by omega) (by omega) (fun hc => ?_) (fun hc => ?_) <;> first | (exfalso; omega) | skip) | refine T_icmp_gt_t (tgt := 53) (pc := 46) k_Re_sortAt_46 rfl (by decide) ?_ | refine T_icmp_gt_f (tgt := 53) (pc1 := 49) (pc := 46) k_Re_sortAt_46 rfl rfl (by decide) ?_ | refine T_icmp_gt (tgt := 53) (pc1 := 49) (pc := 46) k_Re_sortAt_46 rfl rfl (fun hc => ?_) (fun hc => ?_)))))
      | (refine T_iconst (v := (nI 2)) (pc1 := 50) (pc := 49) k_Re_sortAt_49 rfl (by decide) ?_ <;> try (refine T_goto (tgt := 54) (pc := 50) k_Re_sortAt_50 rfl ?_))
      | (refine T_iconst (v := (nI 3)) (pc1 := 54) (pc := 53) k_Re_sortAt_53 rfl (by decide) ?_)
      | (refine T_retI (pc := 54) k_Re_sortAt_54 rfl (by first | rfl | decide | assumption) ?_)
      | refine T_aload_n (pc1 := 2) (pc := 1) k_Re_sortAt_1 rfl rfl ?_
      | refine T_aload_nN (pc1 := 2) (pc := 1) k_Re_sortAt_1 rfl rfl ?_
      | refine T_getR (pc1 := 5) (pc := 2) k_Re_sortAt_2 rfl f_Re_12 rfl (by first | assumption | exact ga G (by decide) rfl | exact lgA LG (by omega)) (by first | assumption | exact gr G (by decide) rfl | exact lgR LG (by omega)) ?_
      | refine T_getV (pc1 := 8) (pc := 5) k_Re_sortAt_5 rfl f_Re_150 rfl (by first | assumption | exact ga G (by decide) rfl | exact lgA LG (by omega)) (by first | assumption | (simp (disch := omega) only [pI_eq, pI_row, pI_col, va_up_self, va_up_ne, ne_eq, not_false_eq_true] <;> rfl) | rfl) ?_
      | (with_reducible refine T_icmp_ltN (tgt := 13) (pc1 := 11) (pc := 8) k_Re_sortAt_8 (by decide) (by decide) (by omega) (by omega) (fun hc => ?_) (fun hc => ?_) <;> first | (exfalso; omega) | skip)
      | refine T_icmp_lt_t (tgt := 13) (pc := 8) k_Re_sortAt_8 rfl (by decide) ?_
      | refine T_icmp_lt_f (tgt := 13) (pc1 := 11) (pc := 8) k_Re_sortAt_8 rfl rfl (by decide) ?_
      | refine T_icmp_lt (tgt := 13) (pc1 := 11) (pc := 8) k_Re_sortAt_8 rfl rfl (fun hc => ?_) (fun hc => ?_)
      | refine T_retI (pc := 12) k_Re_sortAt_12 rfl (by first | rfl | decide | assumption) ?_
      | refine T_getR (pc1 := 17) (pc := 14) k_Re_sortAt_14 rfl f_Re_12 rfl (by first | assumption | exact ga G (by decide) rfl | exact lgA LG (by omega)) (by first | assumption | exact gr G (by decide) rfl | exact lgR LG (by omega)) ?_
      | refine T_getR (pc1 := 20) (pc := 17) k_Re_sortAt_17 rfl f_Re_89 rfl (by first | assumption | exact ga G (by decide) rfl | exact lgA LG (by omega)) (by first | assumption | exact gr G (by decide) rfl | exact lgR LG (by omega)) ?_
      | refine T_iload_n (pc1 := 21) (pc := 20) k_Re_sortAt_20 rfl rfl ?_
      | refine T_ialdN (pc1 := 22) (pc := 21) k_Re_sortAt_21 rfl (by first | assumption | exact ga G (by decide) rfl | exact lgA LG (by omega)) (by omega) (by omega) (by first | assumption | (simp (disch := omega) only [pI_eq, pI_row, pI_col, va_up_self, va_up_ne, ne_eq, not_false_eq_true] <;> rfl) | rfl) ?_
      | refine T_iald (pc1 := 22) (pc := 21) k_Re_sortAt_21 rfl (by first | assumption | exact ga G (by decide) rfl | exact lgA LG (by omega)) (by assumption) ?_
      | refine T_istore_n (pc1 := 23) (pc := 22) k_Re_sortAt_22 rfl (Nat.le_of_ble_eq_true rfl) ?_
      | refine T_iload_n (pc1 := 24) (pc := 23) k_Re_sortAt_23 rfl rfl ?_
      | refine T_bipush (v := (nI 97)) (pc1 := 26) (pc := 24) k_Re_sortAt_24 rfl (by decide) ?_
      | (with_reducible refine T_icmp_ltN (tgt := 37) (pc1 := 29) (pc := 26) k_Re_sortAt_26 (by decide) (by decide) (by omega) (by omega) (fun hc => ?_) (fun hc => ?_) <;> first | (exfalso; omega) | skip)
      | refine T_icmp_lt_t (tgt := 37) (pc := 26) k_Re_sortAt_26 rfl (by decide) ?_
      | refine T_icmp_lt_f (tgt := 37) (pc1 := 29) (pc := 26) k_Re_sortAt_26 rfl rfl (by decide) ?_
      | refine T_icmp_lt (tgt := 37) (pc1 := 29) (pc := 26) k_Re_sortAt_26 rfl rfl (fun hc => ?_) (fun hc => ?_)
      | refine T_bipush (v := (nI 122)) (pc1 := 32) (pc := 30) k_Re_sortAt_30 rfl (by decide) ?_
      | (with_reducible refine T_icmp_gtN (tgt := 37) (pc1 := 35) (pc := 32) k_Re_sortAt_32 (by decide) (by decide) (by omega) (by omega) (fun hc => ?_) (fun hc => ?_) <;> first | (exfalso; omega) | skip)
      | refine T_icmp_gt_t (tgt := 37) (pc := 32) k_Re_sortAt_32 rfl (by decide) ?_
      | refine T_icmp_gt_f (tgt := 37) (pc1 := 35) (pc := 32) k_Re_sortAt_32 rfl rfl (by decide) ?_
      | refine T_icmp_gt (tgt := 37) (pc1 := 35) (pc := 32) k_Re_sortAt_32 rfl rfl (fun hc => ?_) (fun hc => ?_)
      | refine T_retI (pc := 36) k_Re_sortAt_36 rfl (by first | rfl | decide | assumption) ?_
      | refine T_bipush (v := (nI 48)) (pc1 := 40) (pc := 38) k_Re_sortAt_38 rfl (by decide) ?_
      | (with_reducible refine T_icmp_ltN (tgt := 53) (pc1 := 43) (pc := 40) k_Re_sortAt_40 (by decide) (by decide) (by omega) (by omega) (fun hc => ?_) (fun hc => ?_) <;> first | (exfalso; omega) | skip)
      | refine T_icmp_lt_t (tgt := 53) (pc := 40) k_Re_sortAt_40 rfl (by decide) ?_
      | refine T_icmp_lt_f (tgt := 53) (pc1 := 43) (pc := 40) k_Re_sortAt_40 rfl rfl (by decide) ?_
      | refine T_icmp_lt (tgt := 53) (pc1 := 43) (pc := 40) k_Re_sortAt_40 rfl rfl (fun hc => ?_) (fun hc => ?_)
      | refine T_bipush (v := (nI 57)) (pc1 := 46) (pc := 44) k_Re_sortAt_44 rfl (by decide) ?_
      | (with_reducible refine T_icmp_gtN (tgt := 53) (pc1 := 49) (pc := 46) k_Re_sortAt_46 (by decide) (by decide) (by omega) (by omega) (fun hc => ?_) (fun hc => ?_) <;> first | (exfalso; omega) | skip)
      | refine T_icmp_gt_t (tgt := 53) (pc := 46) k_Re_sortAt_46 rfl (by decide) ?_
      | refine T_icmp_gt_f (tgt := 53) (pc1 := 49) (pc := 46) k_Re_sortAt_46 rfl rfl (by decide) ?_
      | refine T_icmp_gt (tgt := 53) (pc1 := 49) (pc := 46) k_Re_sortAt_46 rfl rfl (fun hc => ?_) (fun hc => ?_)
      | refine T_goto (tgt := 54) (pc := 50) k_Re_sortAt_50 rfl ?_)
    all_goals first | (exfalso; omega) | (rw [if_pos ⟨by omega, by omega⟩] at kk; exact kk) | (rw [if_neg (by omega), if_pos ⟨by omega, by omega⟩] at kk; exact kk) | (rw [if_neg (by omega), if_neg (by omega)] at kk; exact kk)
  · rw [(srt_0 okt).mpr hkz] at kk
    repeat' (first
      | (refine T_iload_n (pc1 := 1) (pc := 0) k_Re_sortAt_0 rfl rfl ?_ <;> try ((first | refine T_aload_n (pc1 := 2) (pc := 1) k_Re_sortAt_1 rfl rfl ?_ | refine T_aload_nN (pc1 := 2) (pc := 1) k_Re_sortAt_1 rfl rfl ?_) <;> try (refine T_getR (pc1 := 5) (pc := 2) k_Re_sortAt_2 rfl f_Re_12 rfl (by first | assumption | exact ga G (by decide) rfl | exact lgA LG (by omega)) (by first | assumption | exact gr G (by decide) rfl | exact lgR LG (by omega)) ?_ <;> try (refine T_getV (pc1 := 8) (pc := 5) k_Re_sortAt_5 rfl f_Re_150 rfl (by first | assumption | exact ga G (by decide) rfl | exact lgA LG (by omega)) (by first | assumption | (simp (disch := omega) only [pI_eq, pI_row, pI_col, va_up_self, va_up_ne, ne_eq, not_false_eq_true] <;> rfl) | rfl) ?_ <;> try ((first | (with_reducible refine T_icmp_ltN (tgt := 13) (pc1 := 11) (pc := 8) k_Re_sortAt_8 (by decide) (by decide) (by omega) (by omega) (fun hc => ?_) (fun hc => ?_) <;> first | (exfalso; omega) | skip) | refine T_icmp_lt_t (tgt := 13) (pc := 8) k_Re_sortAt_8 rfl (by decide) ?_ | refine T_icmp_lt_f (tgt := 13) (pc1 := 11) (pc := 8) k_Re_sortAt_8 rfl rfl (by decide) ?_ | refine T_icmp_lt (tgt := 13) (pc1 := 11) (pc := 8) k_Re_sortAt_8 rfl rfl (fun hc => ?_) (fun hc => ?_)))))))
      | (refine T_iconst (v := (nI 0)) (pc1 := 12) (pc := 11) k_Re_sortAt_11 rfl (by decide) ?_ <;> try (refine T_retI (pc := 12) k_Re_sortAt_12 rfl (by first | rfl | decide | assumption) ?_))
      | refine T_aload_n (pc1 := 2) (pc := 1) k_Re_sortAt_1 rfl rfl ?_
      | refine T_aload_nN (pc1 := 2) (pc := 1) k_Re_sortAt_1 rfl rfl ?_
      | refine T_getR (pc1 := 5) (pc := 2) k_Re_sortAt_2 rfl f_Re_12 rfl (by first | assumption | exact ga G (by decide) rfl | exact lgA LG (by omega)) (by first | assumption | exact gr G (by decide) rfl | exact lgR LG (by omega)) ?_
      | refine T_getV (pc1 := 8) (pc := 5) k_Re_sortAt_5 rfl f_Re_150 rfl (by first | assumption | exact ga G (by decide) rfl | exact lgA LG (by omega)) (by first | assumption | (simp (disch := omega) only [pI_eq, pI_row, pI_col, va_up_self, va_up_ne, ne_eq, not_false_eq_true] <;> rfl) | rfl) ?_
      | (with_reducible refine T_icmp_ltN (tgt := 13) (pc1 := 11) (pc := 8) k_Re_sortAt_8 (by decide) (by decide) (by omega) (by omega) (fun hc => ?_) (fun hc => ?_) <;> first | (exfalso; omega) | skip)
      | refine T_icmp_lt_t (tgt := 13) (pc := 8) k_Re_sortAt_8 rfl (by decide) ?_
      | refine T_icmp_lt_f (tgt := 13) (pc1 := 11) (pc := 8) k_Re_sortAt_8 rfl rfl (by decide) ?_
      | refine T_icmp_lt (tgt := 13) (pc1 := 11) (pc := 8) k_Re_sortAt_8 rfl rfl (fun hc => ?_) (fun hc => ?_)
      | refine T_retI (pc := 12) k_Re_sortAt_12 rfl (by first | rfl | decide | assumption) ?_)
    all_goals first | exact kk | (exfalso; omega)
set_option maxHeartbeats 4000000 in
theorem c_Re_next {T : Row} {z e so : Nat} (G : GeoOK g) (okt : okTp T z) (hT : CT I T z) (he : I 66 2 = nI e) (hez : e ≤ z) (hso : I 66 3 = nI so) (hs4 : so ≤ 4) (kk : ∀ J, eqx [66] I J → (∀ k, k ≠ 1 → k ≠ 2 → k ≠ 3 → J 66 k = I 66 k) → J 66 1 = nI (tkS T z e) → J 66 2 = nI (tkE T z (tkS T z e)) → J 66 3 = nI (tkO T z e so) → K none g J) : Cl 2 M_Re_next [.ref 66] g I K := by
  show Rl 2 M_Re_next 0 [some (.ref 66), none, none] [] g I K
  have h96 := okt.1
  have hsb := skp_b (T := T) (z - e) e
  have es : skp T (z - e) e = tkS T z e := rfl
  rw [es] at hsb
  have h3 := srt_le T z (tkS T z e)
  have h0 := srt_0 (k := tkS T z e) okt
  have cT : ∀ J : IM, eqx [66] I J → CT J T z := fun J hJ => ⟨by rw [hJ 67 (by decide)]; exact hT.1, fun k hk => by rw [hJ 68 (by decide)]; exact hT.2 k hk⟩
  -- the end
  have fin : ∀ ws (J : IM), (ws = 1 ↔ isr so) → ws ≤ 1 → ¬ srt T z (tkS T z e) = 3 → eqx [66] I J → (∀ k, k ≠ 1 → k ≠ 2 → k ≠ 3 → J 66 k = I 66 k) → J 66 1 = nI (tkS T z e) → J 66 2 = nI (tkE T z (tkS T z e)) → J 66 3 = nI (srt T z (tkS T z e)) → Rl 2 M_Re_next 167 [some (.ref 66), some (.int (nI ws)), some (.int (nI e))] [] g J K := by
    intro ws J hws hw1 hn3 hJ hk j1 j2 j3
    have out : tkO T z e so = srt T z (tkS T z e) → K none g J := fun q => kk J hJ hk j1 j2 (by rw [q]; exact j3)
    repeat' (first
      | (refine T_iload_n (pc1 := 168) (pc := 167) k_Re_next_167 rfl rfl ?_ <;> try ((first | (with_reducible refine T_if_eqN (tgt := 191) (pc1 := 171) (pc := 168) k_Re_next_168 (by decide) (by decide) (by omega) (fun hc => ?_) (fun hc => ?_) <;> first | (exfalso; omega) | skip) | refine T_if_eq_t (tgt := 191) (pc := 168) k_Re_next_168 rfl (by decide) ?_ | refine T_if_eq_f (tgt := 191) (pc1 := 171) (pc := 168) k_Re_next_168 rfl rfl (by decide) ?_ | refine T_if_eq (tgt := 191) (pc1 := 171) (pc := 168) k_Re_next_168 rfl rfl (fun hc => ?_) (fun hc => ?_))))
      | ((first | refine T_aload_n (pc1 := 172) (pc := 171) k_Re_next_171 rfl rfl ?_ | refine T_aload_nN (pc1 := 172) (pc := 171) k_Re_next_171 rfl rfl ?_) <;> try (refine T_getV (pc1 := 175) (pc := 172) k_Re_next_172 rfl f_Re_25 rfl (by first | assumption | exact ga G (by decide) rfl | exact lgA LG (by omega)) (by first | assumption | (simp (disch := omega) only [pI_eq, pI_row, pI_col, va_up_self, va_up_ne, ne_eq, not_false_eq_true] <;> rfl) | rfl) ?_ <;> try ((first | (with_reducible refine T_if_eqN (tgt := 191) (pc1 := 178) (pc := 175) k_Re_next_175 (by decide) (by decide) (by omega) (fun hc => ?_) (fun hc => ?_) <;> first | (exfalso; omega) | skip) | refine T_if_eq_t (tgt := 191) (pc := 175) k_Re_next_175 rfl (by decide) ?_ | refine T_if_eq_f (tgt := 191) (pc1 := 178) (pc := 175) k_Re_next_175 rfl rfl (by decide) ?_ | refine T_if_eq (tgt := 191) (pc1 := 178) (pc := 175) k_Re_next_175 rfl rfl (fun hc => ?_) (fun hc => ?_)))))
      | ((first | refine T_aload_n (pc1 := 179) (pc := 178) k_Re_next_178 rfl rfl ?_ | refine T_aload_nN (pc1 := 179) (pc := 178) k_Re_next_178 rfl rfl ?_) <;> try (refine T_getV (pc1 := 182) (pc := 179) k_Re_next_179 rfl f_Re_18 rfl (by first | assumption | exact ga G (by decide) rfl | exact lgA LG (by omega)) (by first | assumption | (simp (disch := omega) only [pI_eq, pI_row, pI_col, va_up_self, va_up_ne, ne_eq, not_false_eq_true] <;> rfl) | rfl) ?_ <;> try (refine T_iload_n (pc1 := 183) (pc := 182) k_Re_next_182 rfl rfl ?_ <;> try ((first | (with_reducible refine T_icmp_neN (tgt := 191) (pc1 := 186) (pc := 183) k_Re_next_183 (by decide) (by decide) (by omega) (by omega) (fun hc => ?_) (fun hc => ?_) <;> first | (exfalso; omega) | skip) | refine T_icmp_ne_t (tgt := 191) (pc := 183) k_Re_next_183 rfl (by decide) ?_ | refine T_icmp_ne_f (tgt := 191) (pc1 := 186) (pc := 183) k_Re_next_183 rfl rfl (by decide) ?_ | refine T_icmp_ne (tgt := 191) (pc1 := 186) (pc := 183) k_Re_next_183 rfl rfl (fun hc => ?_) (fun hc => ?_))))))
      | ((first | refine T_aload_n (pc1 := 187) (pc := 186) k_Re_next_186 rfl rfl ?_ | refine T_aload_nN (pc1 := 187) (pc := 186) k_Re_next_186 rfl rfl ?_) <;> try (refine T_iconst (v := (nI 4)) (pc1 := 188) (pc := 187) k_Re_next_187 rfl (by decide) ?_ <;> try (refine T_putI (pc1 := 191) (pc := 188) k_Re_next_188 rfl f_Re_25 rfl (by first | assumption | exact ga G (by decide) rfl | exact lgA LG (by omega)) (by first | rfl | decide | assumption) (by first | rfl | decide | assumption) ?_)))
      | (refine T_retV (pc := 191) k_Re_next_191 rfl ?_)
      | (with_reducible refine T_if_eqN (tgt := 191) (pc1 := 171) (pc := 168) k_Re_next_168 (by decide) (by decide) (by omega) (fun hc => ?_) (fun hc => ?_) <;> first | (exfalso; omega) | skip)
      | refine T_if_eq_t (tgt := 191) (pc := 168) k_Re_next_168 rfl (by decide) ?_
      | refine T_if_eq_f (tgt := 191) (pc1 := 171) (pc := 168) k_Re_next_168 rfl rfl (by decide) ?_
      | refine T_if_eq (tgt := 191) (pc1 := 171) (pc := 168) k_Re_next_168 rfl rfl (fun hc => ?_) (fun hc => ?_)
      | refine T_getV (pc1 := 175) (pc := 172) k_Re_next_172 rfl f_Re_25 rfl (by first | assumption | exact ga G (by decide) rfl | exact lgA LG (by omega)) (by first | assumption | (simp (disch := omega) only [pI_eq, pI_row, pI_col, va_up_self, va_up_ne, ne_eq, not_false_eq_true] <;> rfl) | rfl) ?_
      | (with_reducible refine T_if_eqN (tgt := 191) (pc1 := 178) (pc := 175) k_Re_next_175 (by decide) (by decide) (by omega) (fun hc => ?_) (fun hc => ?_) <;> first | (exfalso; omega) | skip)
      | refine T_if_eq_t (tgt := 191) (pc := 175) k_Re_next_175 rfl (by decide) ?_
      | refine T_if_eq_f (tgt := 191) (pc1 := 178) (pc := 175) k_Re_next_175 rfl rfl (by decide) ?_
      | refine T_if_eq (tgt := 191) (pc1 := 178) (pc := 175) k_Re_next_175 rfl rfl (fun hc => ?_) (fun hc => ?_)
      | refine T_getV (pc1 := 182) (pc := 179) k_Re_next_179 rfl f_Re_18 rfl (by first | assumption | exact ga G (by decide) rfl | exact lgA LG (by omega)) (by first | assumption | (simp (disch := omega) only [pI_eq, pI_row, pI_col, va_up_self, va_up_ne, ne_eq, not_false_eq_true] <;> rfl) | rfl) ?_
      | refine T_iload_n (pc1 := 183) (pc := 182) k_Re_next_182 rfl rfl ?_
      | (with_reducible refine T_icmp_neN (tgt := 191) (pc1 := 186) (pc := 183) k_Re_next_183 (by decide) (by decide) (by omega) (by omega) (fun hc => ?_) (fun hc => ?_) <;> first | (exfalso; omega) | skip)
      | refine T_icmp_ne_t (tgt := 191) (pc := 183) k_Re_next_183 rfl (by decide) ?_
      | refine T_icmp_ne_f (tgt := 191) (pc1 := 186) (pc := 183) k_Re_next_183 rfl rfl (by decide) ?_
      | refine T_icmp_ne (tgt := 191) (pc1 := 186) (pc := 183) k_Re_next_183 rfl rfl (fun hc => ?_) (fun hc => ?_)
      | refine T_iconst (v := (nI 4)) (pc1 := 188) (pc := 187) k_Re_next_187 rfl (by decide) ?_
      | refine T_putI (pc1 := 191) (pc := 188) k_Re_next_188 rfl f_Re_25 rfl (by first | assumption | exact ga G (by decide) rfl | exact lgA LG (by omega)) (by first | rfl | decide | assumption) (by first | rfl | decide | assumption) ?_)
    · exact out (by rw [tkO, if_neg (fun q => by have := hws.mpr q.1.2; omega)])
    · exact out (by rw [tkO, if_neg (fun q => by have := q.2; omega)])
    · exact out (by rw [tkO, if_neg (fun q => by have := q.1.1; omega)])
    · refine kk _ (eqx_pI hJ _ (by decide)) (fun k a b c => by rw [pI_col c]; exact hk k a b c) (by rw [pI_col (by decide)]; exact j1) (by rw [pI_col (by decide)]; exact j2) ?_
      rw [pI_eq, tkO, if_pos ⟨⟨by omega, hws.mp (by omega)⟩, by omega⟩]
  -- the run
  have run : ∀ f k ws (J : IM), k + f = z → (ws = 1 ↔ isr so) → ws ≤ 1 → isr (srt T z (tkS T z e)) → eqx [66] I J → (∀ k, k ≠ 1 → k ≠ 2 → k ≠ 3 → J 66 k = I 66 k) → J 66 1 = nI (tkS T z e) → J 66 2 = nI k → J 66 3 = nI (srt T z (tkS T z e)) → rn1 T z (srt T z (tkS T z e)) f k = tkE T z (tkS T z e) → Rl 2 M_Re_next 118 [some (.ref 66), some (.int (nI ws)), some (.int (nI e))] [] g J K := by
    intro f
    induction f with
    | zero =>
      intro k ws J hkf hws hw1 hir hJ hk j1 j2 j3 hen
      have t1 := (cT J hJ).1
      have hen : k = tkE T z (tkS T z e) := hen
      have f0 := fin ws J hws hw1 (by omega) hJ hk j1 (by rw [← hen]; exact j2) j3
      repeat' (first
        | ((first | refine T_aload_n (pc1 := 119) (pc := 118) k_Re_next_118 rfl rfl ?_ | refine T_aload_nN (pc1 := 119) (pc := 118) k_Re_next_118 rfl rfl ?_) <;> try (refine T_getV (pc1 := 122) (pc := 119) k_Re_next_119 rfl f_Re_22 rfl (by first | assumption | exact ga G (by decide) rfl | exact lgA LG (by omega)) (by first | assumption | (simp (disch := omega) only [pI_eq, pI_row, pI_col, va_up_self, va_up_ne, ne_eq, not_false_eq_true] <;> rfl) | rfl) ?_ <;> try ((first | refine T_aload_n (pc1 := 123) (pc := 122) k_Re_next_122 rfl rfl ?_ | refine T_aload_nN (pc1 := 123) (pc := 122) k_Re_next_122 rfl rfl ?_) <;> try (refine T_getR (pc1 := 126) (pc := 123) k_Re_next_123 rfl f_Re_12 rfl (by first | assumption | exact ga G (by decide) rfl | exact lgA LG (by omega)) (by first | assumption | exact gr G (by decide) rfl | exact lgR LG (by omega)) ?_ <;> try (refine T_getV (pc1 := 129) (pc := 126) k_Re_next_126 rfl f_Re_150 rfl (by first | assumption | exact ga G (by decide) rfl | exact lgA LG (by omega)) (by first | assumption | (simp (disch := omega) only [pI_eq, pI_row, pI_col, va_up_self, va_up_ne, ne_eq, not_false_eq_true] <;> rfl) | rfl) ?_ <;> try ((first | (with_reducible refine T_icmp_geN (tgt := 167) (pc1 := 132) (pc := 129) k_Re_next_129 (by decide) (by decide) (by omega) (by omega) (fun hc => ?_) (fun hc => ?_) <;> first | (exfalso; omega) | skip) | refine T_icmp_ge_t (tgt := 167) (pc := 129) k_Re_next_129 rfl (by decide) ?_ | refine T_icmp_ge_f (tgt := 167) (pc1 := 132) (pc := 129) k_Re_next_129 rfl rfl (by decide) ?_ | refine T_icmp_ge (tgt := 167) (pc1 := 132) (pc := 129) k_Re_next_129 rfl rfl (fun hc => ?_) (fun hc => ?_))))))))
        | refine T_getV (pc1 := 122) (pc := 119) k_Re_next_119 rfl f_Re_22 rfl (by first | assumption | exact ga G (by decide) rfl | exact lgA LG (by omega)) (by first | assumption | (simp (disch := omega) only [pI_eq, pI_row, pI_col, va_up_self, va_up_ne, ne_eq, not_false_eq_true] <;> rfl) | rfl) ?_
        | refine T_aload_n (pc1 := 123) (pc := 122) k_Re_next_122 rfl rfl ?_
        | refine T_aload_nN (pc1 := 123) (pc := 122) k_Re_next_122 rfl rfl ?_
        | refine T_getR (pc1 := 126) (pc := 123) k_Re_next_123 rfl f_Re_12 rfl (by first | assumption | exact ga G (by decide) rfl | exact lgA LG (by omega)) (by first | assumption | exact gr G (by decide) rfl | exact lgR LG (by omega)) ?_
        | refine T_getV (pc1 := 129) (pc := 126) k_Re_next_126 rfl f_Re_150 rfl (by first | assumption | exact ga G (by decide) rfl | exact lgA LG (by omega)) (by first | assumption | (simp (disch := omega) only [pI_eq, pI_row, pI_col, va_up_self, va_up_ne, ne_eq, not_false_eq_true] <;> rfl) | rfl) ?_
        | (with_reducible refine T_icmp_geN (tgt := 167) (pc1 := 132) (pc := 129) k_Re_next_129 (by decide) (by decide) (by omega) (by omega) (fun hc => ?_) (fun hc => ?_) <;> first | (exfalso; omega) | skip)
        | refine T_icmp_ge_t (tgt := 167) (pc := 129) k_Re_next_129 rfl (by decide) ?_
        | refine T_icmp_ge_f (tgt := 167) (pc1 := 132) (pc := 129) k_Re_next_129 rfl rfl (by decide) ?_
        | refine T_icmp_ge (tgt := 167) (pc1 := 132) (pc := 129) k_Re_next_129 rfl rfl (fun hc => ?_) (fun hc => ?_))
      all_goals first | exact f0 | (exfalso; omega)
    | succ f ih =>
      intro k ws J hkf hws hw1 hir hJ hk j1 j2 j3 hen
      have t1 := (cT J hJ).1
      rw [rn1] at hen
      have hk3 := srt_le T z k
      repeat' (first
        | (refine T_getV (pc1 := 122) (pc := 119) k_Re_next_119 rfl f_Re_22 rfl (by first | assumption | exact ga G (by decide) rfl | exact lgA LG (by omega)) (by first | assumption | (simp (disch := omega) only [pI_eq, pI_row, pI_col, va_up_self, va_up_ne, ne_eq, not_false_eq_true] <;> rfl) | rfl) ?_ <;> try ((first | refine T_aload_n (pc1 := 123) (pc := 122) k_Re_next_122 rfl rfl ?_ | refine T_aload_nN (pc1 := 123) (pc := 122) k_Re_next_122 rfl rfl ?_) <;> try (refine T_getR (pc1 := 126) (pc := 123) k_Re_next_123 rfl f_Re_12 rfl (by first | assumption | exact ga G (by decide) rfl | exact lgA LG (by omega)) (by first | assumption | exact gr G (by decide) rfl | exact lgR LG (by omega)) ?_ <;> try (refine T_getV (pc1 := 129) (pc := 126) k_Re_next_126 rfl f_Re_150 rfl (by first | assumption | exact ga G (by decide) rfl | exact lgA LG (by omega)) (by first | assumption | (simp (disch := omega) only [pI_eq, pI_row, pI_col, va_up_self, va_up_ne, ne_eq, not_false_eq_true] <;> rfl) | rfl) ?_ <;> try ((first | (with_reducible refine T_icmp_geN (tgt := 167) (pc1 := 132) (pc := 129) k_Re_next_129 (by decide) (by decide) (by omega) (by omega) (fun hc => ?_) (fun hc => ?_) <;> first | (exfalso; omega) | skip) | refine T_icmp_ge_t (tgt := 167) (pc := 129) k_Re_next_129 rfl (by decide) ?_ | refine T_icmp_ge_f (tgt := 167) (pc1 := 132) (pc := 129) k_Re_next_129 rfl rfl (by decide) ?_ | refine T_icmp_ge (tgt := 167) (pc1 := 132) (pc := 129) k_Re_next_129 rfl rfl (fun hc => ?_) (fun hc => ?_)))))))
        | ((first | refine T_aload_n (pc1 := 133) (pc := 132) k_Re_next_132 rfl rfl ?_ | refine T_aload_nN (pc1 := 133) (pc := 132) k_Re_next_132 rfl rfl ?_) <;> try (refine T_getV (pc1 := 136) (pc := 133) k_Re_next_133 rfl f_Re_25 rfl (by first | assumption | exact ga G (by decide) rfl | exact lgA LG (by omega)) (by first | assumption | (simp (disch := omega) only [pI_eq, pI_row, pI_col, va_up_self, va_up_ne, ne_eq, not_false_eq_true] <;> rfl) | rfl) ?_ <;> try ((first | (with_reducible refine T_if_eqN (tgt := 167) (pc1 := 139) (pc := 136) k_Re_next_136 (by decide) (by decide) (by omega) (fun hc => ?_) (fun hc => ?_) <;> first | (exfalso; omega) | skip) | refine T_if_eq_t (tgt := 167) (pc := 136) k_Re_next_136 rfl (by decide) ?_ | refine T_if_eq_f (tgt := 167) (pc1 := 139) (pc := 136) k_Re_next_136 rfl rfl (by decide) ?_ | refine T_if_eq (tgt := 167) (pc1 := 139) (pc := 136) k_Re_next_136 rfl rfl (fun hc => ?_) (fun hc => ?_)))))
        | ((first | refine T_aload_n (pc1 := 140) (pc := 139) k_Re_next_139 rfl rfl ?_ | refine T_aload_nN (pc1 := 140) (pc := 139) k_Re_next_139 rfl rfl ?_) <;> try ((first | refine T_aload_n (pc1 := 141) (pc := 140) k_Re_next_140 rfl rfl ?_ | refine T_aload_nN (pc1 := 141) (pc := 140) k_Re_next_140 rfl rfl ?_) <;> try (refine T_getV (pc1 := 144) (pc := 141) k_Re_next_141 rfl f_Re_22 rfl (by first | assumption | exact ga G (by decide) rfl | exact lgA LG (by omega)) (by first | assumption | (simp (disch := omega) only [pI_eq, pI_row, pI_col, va_up_self, va_up_ne, ne_eq, not_false_eq_true] <;> rfl) | rfl) ?_ <;> try ((refine T_cV (As := [_]) (d1 := 1) (pc1 := 147) (pc := 144) k_Re_next_144 rfl (by decide) (Nat.le_of_ble_eq_true rfl) rfl o_Re_sortAt l_Re_153 rfl (by first | assumption | exact ga G (by decide) rfl | exact lgA LG (by omega)) rfl (c_Re_sortAt G okt (cT J hJ) (by omega) ?_) <;> try dsimp only [psh]) <;> try ((first | refine T_aload_n (pc1 := 148) (pc := 147) k_Re_next_147 rfl rfl ?_ | refine T_aload_nN (pc1 := 148) (pc := 147) k_Re_next_147 rfl rfl ?_) <;> try (refine T_getV (pc1 := 151) (pc := 148) k_Re_next_148 rfl f_Re_25 rfl (by first | assumption | exact ga G (by decide) rfl | exact lgA LG (by omega)) (by first | assumption | (simp (disch := omega) only [pI_eq, pI_row, pI_col, va_up_self, va_up_ne, ne_eq, not_false_eq_true] <;> rfl) | rfl) ?_ <;> try ((first | (with_reducible refine T_icmp_neN (tgt := 167) (pc1 := 154) (pc := 151) k_Re_next_151 (by decide) (by decide) (by omega) (by omega) (fun hc => ?_) (fun hc => ?_) <;> first | (exfalso; omega) | skip) | refine T_icmp_ne_t (tgt := 167) (pc := 151) k_Re_next_151 rfl (by decide) ?_ | refine T_icmp_ne_f (tgt := 167) (pc1 := 154) (pc := 151) k_Re_next_151 rfl rfl (by decide) ?_ | refine T_icmp_ne (tgt := 167) (pc1 := 154) (pc := 151) k_Re_next_151 rfl rfl (fun hc => ?_) (fun hc => ?_)))))))))
        | ((first | refine T_aload_n (pc1 := 155) (pc := 154) k_Re_next_154 rfl rfl ?_ | refine T_aload_nN (pc1 := 155) (pc := 154) k_Re_next_154 rfl rfl ?_) <;> try (refine T_dup (pc1 := 156) (pc := 155) k_Re_next_155 rfl rfl ?_ <;> try (refine T_getV (pc1 := 159) (pc := 156) k_Re_next_156 rfl f_Re_22 rfl (by first | assumption | exact ga G (by decide) rfl | exact lgA LG (by omega)) (by first | assumption | (simp (disch := omega) only [pI_eq, pI_row, pI_col, va_up_self, va_up_ne, ne_eq, not_false_eq_true] <;> rfl) | rfl) ?_ <;> try (refine T_iconst (v := (nI 1)) (pc1 := 160) (pc := 159) k_Re_next_159 rfl (by decide) ?_ <;> try ((first | with_reducible refine T_iaddN (pc1 := 161) (pc := 160) k_Re_next_160 (by decide) ?_ | refine T_iadd (pc1 := 161) (pc := 160) k_Re_next_160 rfl ?_) <;> try (refine T_putI (pc1 := 164) (pc := 161) k_Re_next_161 rfl f_Re_22 rfl (by first | assumption | exact ga G (by decide) rfl | exact lgA LG (by omega)) (by first | rfl | decide | assumption) (by first | rfl | decide | assumption) ?_ <;> try (refine T_goto (tgt := 118) (pc := 164) k_Re_next_164 rfl ?_)))))))
        | refine T_aload_n (pc1 := 123) (pc := 122) k_Re_next_122 rfl rfl ?_
        | refine T_aload_nN (pc1 := 123) (pc := 122) k_Re_next_122 rfl rfl ?_
        | refine T_getR (pc1 := 126) (pc := 123) k_Re_next_123 rfl f_Re_12 rfl (by first | assumption | exact ga G (by decide) rfl | exact lgA LG (by omega)) (by first | assumption | exact gr G (by decide) rfl | exact lgR LG (by omega)) ?_
        | refine T_getV (pc1 := 129) (pc := 126) k_Re_next_126 rfl f_Re_150 rfl (by first | assumption | exact ga G (by decide) rfl | exact lgA LG (by omega)) (by first | assumption | (simp (disch := omega) only [pI_eq, pI_row, pI_col, va_up_self, va_up_ne, ne_eq, not_false_eq_true] <;> rfl) | rfl) ?_
        | (with_reducible refine T_icmp_geN (tgt := 167) (pc1 := 132) (pc := 129) k_Re_next_129 (by decide) (by decide) (by omega) (by omega) (fun hc => ?_) (fun hc => ?_) <;> first | (exfalso; omega) | skip)
        | refine T_icmp_ge_t (tgt := 167) (pc := 129) k_Re_next_129 rfl (by decide) ?_
        | refine T_icmp_ge_f (tgt := 167) (pc1 := 132) (pc := 129) k_Re_next_129 rfl rfl (by decide) ?_
        | refine T_icmp_ge (tgt := 167) (pc1 := 132) (pc := 129) k_Re_next_129 rfl rfl (fun hc => ?_) (fun hc => ?_)
        | refine T_getV (pc1 := 136) (pc := 133) k_Re_next_133 rfl f_Re_25 rfl (by first | assumption | exact ga G (by decide) rfl | exact lgA LG (by omega)) (by first | assumption | (simp (disch := omega) only [pI_eq, pI_row, pI_col, va_up_self, va_up_ne, ne_eq, not_false_eq_true] <;> rfl) | rfl) ?_
        | (with_reducible refine T_if_eqN (tgt := 167) (pc1 := 139) (pc := 136) k_Re_next_136 (by decide) (by decide) (by omega) (fun hc => ?_) (fun hc => ?_) <;> first | (exfalso; omega) | skip)
        | refine T_if_eq_t (tgt := 167) (pc := 136) k_Re_next_136 rfl (by decide) ?_
        | refine T_if_eq_f (tgt := 167) (pc1 := 139) (pc := 136) k_Re_next_136 rfl rfl (by decide) ?_
        | refine T_if_eq (tgt := 167) (pc1 := 139) (pc := 136) k_Re_next_136 rfl rfl (fun hc => ?_) (fun hc => ?_)
        | refine T_aload_n (pc1 := 141) (pc := 140) k_Re_next_140 rfl rfl ?_
        | refine T_aload_nN (pc1 := 141) (pc := 140) k_Re_next_140 rfl rfl ?_
        | refine T_getV (pc1 := 144) (pc := 141) k_Re_next_141 rfl f_Re_22 rfl (by first | assumption | exact ga G (by decide) rfl | exact lgA LG (by omega)) (by first | assumption | (simp (disch := omega) only [pI_eq, pI_row, pI_col, va_up_self, va_up_ne, ne_eq, not_false_eq_true] <;> rfl) | rfl) ?_
        | (refine T_cV (As := [_]) (d1 := 1) (pc1 := 147) (pc := 144) k_Re_next_144 rfl (by decide) (Nat.le_of_ble_eq_true rfl) rfl o_Re_sortAt l_Re_153 rfl (by first | assumption | exact ga G (by decide) rfl | exact lgA LG (by omega)) rfl (c_Re_sortAt G okt (cT J hJ) (by omega) ?_) <;> try dsimp only [psh])
        | refine T_aload_n (pc1 := 148) (pc := 147) k_Re_next_147 rfl rfl ?_
        | refine T_aload_nN (pc1 := 148) (pc := 147) k_Re_next_147 rfl rfl ?_
        | refine T_getV (pc1 := 151) (pc := 148) k_Re_next_148 rfl f_Re_25 rfl (by first | assumption | exact ga G (by decide) rfl | exact lgA LG (by omega)) (by first | assumption | (simp (disch := omega) only [pI_eq, pI_row, pI_col, va_up_self, va_up_ne, ne_eq, not_false_eq_true] <;> rfl) | rfl) ?_
        | (with_reducible refine T_icmp_neN (tgt := 167) (pc1 := 154) (pc := 151) k_Re_next_151 (by decide) (by decide) (by omega) (by omega) (fun hc => ?_) (fun hc => ?_) <;> first | (exfalso; omega) | skip)
        | refine T_icmp_ne_t (tgt := 167) (pc := 151) k_Re_next_151 rfl (by decide) ?_
        | refine T_icmp_ne_f (tgt := 167) (pc1 := 154) (pc := 151) k_Re_next_151 rfl rfl (by decide) ?_
        | refine T_icmp_ne (tgt := 167) (pc1 := 154) (pc := 151) k_Re_next_151 rfl rfl (fun hc => ?_) (fun hc => ?_)
        | refine T_dup (pc1 := 156) (pc := 155) k_Re_next_155 rfl rfl ?_
        | refine T_getV (pc1 := 159) (pc := 156) k_Re_next_156 rfl f_Re_22 rfl (by first | assumption | exact ga G (by decide) rfl | exact lgA LG (by omega)) (by first | assumption | (simp (disch := omega) only [pI_eq, pI_row, pI_col, va_up_self, va_up_ne, ne_eq, not_false_eq_true] <;> rfl) | rfl) ?_
        | refine T_iconst (v := (nI 1)) (pc1 := 160) (pc := 159) k_Re_next_159 rfl (by decide) ?_
        | with_reducible refine T_iaddN (pc1 := 161) (pc := 160) k_Re_next_160 (by decide) ?_
        | refine T_iadd (pc1 := 161) (pc := 160) k_Re_next_160 rfl ?_
        | refine T_putI (pc1 := 164) (pc := 161) k_Re_next_161 rfl f_Re_22 rfl (by first | assumption | exact ga G (by decide) rfl | exact lgA LG (by omega)) (by first | rfl | decide | assumption) (by first | rfl | decide | assumption) ?_
        | refine T_goto (tgt := 118) (pc := 164) k_Re_next_164 rfl ?_)
      first | refine T_aload_n (pc1 := 119) (pc := 118) k_Re_next_118 rfl rfl ?_ | refine T_aload_nN (pc1 := 119) (pc := 118) k_Re_next_118 rfl rfl ?_
      repeat' (first
        | (refine T_getV (pc1 := 122) (pc := 119) k_Re_next_119 rfl f_Re_22 rfl (by first | assumption | exact ga G (by decide) rfl | exact lgA LG (by omega)) (by first | assumption | (simp (disch := omega) only [pI_eq, pI_row, pI_col, va_up_self, va_up_ne, ne_eq, not_false_eq_true] <;> rfl) | rfl) ?_ <;> try ((first | refine T_aload_n (pc1 := 123) (pc := 122) k_Re_next_122 rfl rfl ?_ | refine T_aload_nN (pc1 := 123) (pc := 122) k_Re_next_122 rfl rfl ?_) <;> try (refine T_getR (pc1 := 126) (pc := 123) k_Re_next_123 rfl f_Re_12 rfl (by first | assumption | exact ga G (by decide) rfl | exact lgA LG (by omega)) (by first | assumption | exact gr G (by decide) rfl | exact lgR LG (by omega)) ?_ <;> try (refine T_getV (pc1 := 129) (pc := 126) k_Re_next_126 rfl f_Re_150 rfl (by first | assumption | exact ga G (by decide) rfl | exact lgA LG (by omega)) (by first | assumption | (simp (disch := omega) only [pI_eq, pI_row, pI_col, va_up_self, va_up_ne, ne_eq, not_false_eq_true] <;> rfl) | rfl) ?_ <;> try ((first | (with_reducible refine T_icmp_geN (tgt := 167) (pc1 := 132) (pc := 129) k_Re_next_129 (by decide) (by decide) (by omega) (by omega) (fun hc => ?_) (fun hc => ?_) <;> first | (exfalso; omega) | skip) | refine T_icmp_ge_t (tgt := 167) (pc := 129) k_Re_next_129 rfl (by decide) ?_ | refine T_icmp_ge_f (tgt := 167) (pc1 := 132) (pc := 129) k_Re_next_129 rfl rfl (by decide) ?_ | refine T_icmp_ge (tgt := 167) (pc1 := 132) (pc := 129) k_Re_next_129 rfl rfl (fun hc => ?_) (fun hc => ?_)))))))
        | ((first | refine T_aload_n (pc1 := 133) (pc := 132) k_Re_next_132 rfl rfl ?_ | refine T_aload_nN (pc1 := 133) (pc := 132) k_Re_next_132 rfl rfl ?_) <;> try (refine T_getV (pc1 := 136) (pc := 133) k_Re_next_133 rfl f_Re_25 rfl (by first | assumption | exact ga G (by decide) rfl | exact lgA LG (by omega)) (by first | assumption | (simp (disch := omega) only [pI_eq, pI_row, pI_col, va_up_self, va_up_ne, ne_eq, not_false_eq_true] <;> rfl) | rfl) ?_ <;> try ((first | (with_reducible refine T_if_eqN (tgt := 167) (pc1 := 139) (pc := 136) k_Re_next_136 (by decide) (by decide) (by omega) (fun hc => ?_) (fun hc => ?_) <;> first | (exfalso; omega) | skip) | refine T_if_eq_t (tgt := 167) (pc := 136) k_Re_next_136 rfl (by decide) ?_ | refine T_if_eq_f (tgt := 167) (pc1 := 139) (pc := 136) k_Re_next_136 rfl rfl (by decide) ?_ | refine T_if_eq (tgt := 167) (pc1 := 139) (pc := 136) k_Re_next_136 rfl rfl (fun hc => ?_) (fun hc => ?_)))))
        | ((first | refine T_aload_n (pc1 := 140) (pc := 139) k_Re_next_139 rfl rfl ?_ | refine T_aload_nN (pc1 := 140) (pc := 139) k_Re_next_139 rfl rfl ?_) <;> try ((first | refine T_aload_n (pc1 := 141) (pc := 140) k_Re_next_140 rfl rfl ?_ | refine T_aload_nN (pc1 := 141) (pc := 140) k_Re_next_140 rfl rfl ?_) <;> try (refine T_getV (pc1 := 144) (pc := 141) k_Re_next_141 rfl f_Re_22 rfl (by first | assumption | exact ga G (by decide) rfl | exact lgA LG (by omega)) (by first | assumption | (simp (disch := omega) only [pI_eq, pI_row, pI_col, va_up_self, va_up_ne, ne_eq, not_false_eq_true] <;> rfl) | rfl) ?_ <;> try ((refine T_cV (As := [_]) (d1 := 1) (pc1 := 147) (pc := 144) k_Re_next_144 rfl (by decide) (Nat.le_of_ble_eq_true rfl) rfl o_Re_sortAt l_Re_153 rfl (by first | assumption | exact ga G (by decide) rfl | exact lgA LG (by omega)) rfl (c_Re_sortAt G okt (cT J hJ) (by omega) ?_) <;> try dsimp only [psh]) <;> try ((first | refine T_aload_n (pc1 := 148) (pc := 147) k_Re_next_147 rfl rfl ?_ | refine T_aload_nN (pc1 := 148) (pc := 147) k_Re_next_147 rfl rfl ?_) <;> try (refine T_getV (pc1 := 151) (pc := 148) k_Re_next_148 rfl f_Re_25 rfl (by first | assumption | exact ga G (by decide) rfl | exact lgA LG (by omega)) (by first | assumption | (simp (disch := omega) only [pI_eq, pI_row, pI_col, va_up_self, va_up_ne, ne_eq, not_false_eq_true] <;> rfl) | rfl) ?_ <;> try ((first | (with_reducible refine T_icmp_neN (tgt := 167) (pc1 := 154) (pc := 151) k_Re_next_151 (by decide) (by decide) (by omega) (by omega) (fun hc => ?_) (fun hc => ?_) <;> first | (exfalso; omega) | skip) | refine T_icmp_ne_t (tgt := 167) (pc := 151) k_Re_next_151 rfl (by decide) ?_ | refine T_icmp_ne_f (tgt := 167) (pc1 := 154) (pc := 151) k_Re_next_151 rfl rfl (by decide) ?_ | refine T_icmp_ne (tgt := 167) (pc1 := 154) (pc := 151) k_Re_next_151 rfl rfl (fun hc => ?_) (fun hc => ?_)))))))))
        | ((first | refine T_aload_n (pc1 := 155) (pc := 154) k_Re_next_154 rfl rfl ?_ | refine T_aload_nN (pc1 := 155) (pc := 154) k_Re_next_154 rfl rfl ?_) <;> try (refine T_dup (pc1 := 156) (pc := 155) k_Re_next_155 rfl rfl ?_ <;> try (refine T_getV (pc1 := 159) (pc := 156) k_Re_next_156 rfl f_Re_22 rfl (by first | assumption | exact ga G (by decide) rfl | exact lgA LG (by omega)) (by first | assumption | (simp (disch := omega) only [pI_eq, pI_row, pI_col, va_up_self, va_up_ne, ne_eq, not_false_eq_true] <;> rfl) | rfl) ?_ <;> try (refine T_iconst (v := (nI 1)) (pc1 := 160) (pc := 159) k_Re_next_159 rfl (by decide) ?_ <;> try ((first | with_reducible refine T_iaddN (pc1 := 161) (pc := 160) k_Re_next_160 (by decide) ?_ | refine T_iadd (pc1 := 161) (pc := 160) k_Re_next_160 rfl ?_) <;> try (refine T_putI (pc1 := 164) (pc := 161) k_Re_next_161 rfl f_Re_22 rfl (by first | assumption | exact ga G (by decide) rfl | exact lgA LG (by omega)) (by first | rfl | decide | assumption) (by first | rfl | decide | assumption) ?_ <;> try (refine T_goto (tgt := 118) (pc := 164) k_Re_next_164 rfl ?_)))))))
        | refine T_aload_n (pc1 := 123) (pc := 122) k_Re_next_122 rfl rfl ?_
        | refine T_aload_nN (pc1 := 123) (pc := 122) k_Re_next_122 rfl rfl ?_
        | refine T_getR (pc1 := 126) (pc := 123) k_Re_next_123 rfl f_Re_12 rfl (by first | assumption | exact ga G (by decide) rfl | exact lgA LG (by omega)) (by first | assumption | exact gr G (by decide) rfl | exact lgR LG (by omega)) ?_
        | refine T_getV (pc1 := 129) (pc := 126) k_Re_next_126 rfl f_Re_150 rfl (by first | assumption | exact ga G (by decide) rfl | exact lgA LG (by omega)) (by first | assumption | (simp (disch := omega) only [pI_eq, pI_row, pI_col, va_up_self, va_up_ne, ne_eq, not_false_eq_true] <;> rfl) | rfl) ?_
        | (with_reducible refine T_icmp_geN (tgt := 167) (pc1 := 132) (pc := 129) k_Re_next_129 (by decide) (by decide) (by omega) (by omega) (fun hc => ?_) (fun hc => ?_) <;> first | (exfalso; omega) | skip)
        | refine T_icmp_ge_t (tgt := 167) (pc := 129) k_Re_next_129 rfl (by decide) ?_
        | refine T_icmp_ge_f (tgt := 167) (pc1 := 132) (pc := 129) k_Re_next_129 rfl rfl (by decide) ?_
        | refine T_icmp_ge (tgt := 167) (pc1 := 132) (pc := 129) k_Re_next_129 rfl rfl (fun hc => ?_) (fun hc => ?_)
        | refine T_getV (pc1 := 136) (pc := 133) k_Re_next_133 rfl f_Re_25 rfl (by first | assumption | exact ga G (by decide) rfl | exact lgA LG (by omega)) (by first | assumption | (simp (disch := omega) only [pI_eq, pI_row, pI_col, va_up_self, va_up_ne, ne_eq, not_false_eq_true] <;> rfl) | rfl) ?_
        | (with_reducible refine T_if_eqN (tgt := 167) (pc1 := 139) (pc := 136) k_Re_next_136 (by decide) (by decide) (by omega) (fun hc => ?_) (fun hc => ?_) <;> first | (exfalso; omega) | skip)
        | refine T_if_eq_t (tgt := 167) (pc := 136) k_Re_next_136 rfl (by decide) ?_
        | refine T_if_eq_f (tgt := 167) (pc1 := 139) (pc := 136) k_Re_next_136 rfl rfl (by decide) ?_
        | refine T_if_eq (tgt := 167) (pc1 := 139) (pc := 136) k_Re_next_136 rfl rfl (fun hc => ?_) (fun hc => ?_)
        | refine T_aload_n (pc1 := 141) (pc := 140) k_Re_next_140 rfl rfl ?_
        | refine T_aload_nN (pc1 := 141) (pc := 140) k_Re_next_140 rfl rfl ?_
        | refine T_getV (pc1 := 144) (pc := 141) k_Re_next_141 rfl f_Re_22 rfl (by first | assumption | exact ga G (by decide) rfl | exact lgA LG (by omega)) (by first | assumption | (simp (disch := omega) only [pI_eq, pI_row, pI_col, va_up_self, va_up_ne, ne_eq, not_false_eq_true] <;> rfl) | rfl) ?_
        | (refine T_cV (As := [_]) (d1 := 1) (pc1 := 147) (pc := 144) k_Re_next_144 rfl (by decide) (Nat.le_of_ble_eq_true rfl) rfl o_Re_sortAt l_Re_153 rfl (by first | assumption | exact ga G (by decide) rfl | exact lgA LG (by omega)) rfl (c_Re_sortAt G okt (cT J hJ) (by omega) ?_) <;> try dsimp only [psh])
        | refine T_aload_n (pc1 := 148) (pc := 147) k_Re_next_147 rfl rfl ?_
        | refine T_aload_nN (pc1 := 148) (pc := 147) k_Re_next_147 rfl rfl ?_
        | refine T_getV (pc1 := 151) (pc := 148) k_Re_next_148 rfl f_Re_25 rfl (by first | assumption | exact ga G (by decide) rfl | exact lgA LG (by omega)) (by first | assumption | (simp (disch := omega) only [pI_eq, pI_row, pI_col, va_up_self, va_up_ne, ne_eq, not_false_eq_true] <;> rfl) | rfl) ?_
        | (with_reducible refine T_icmp_neN (tgt := 167) (pc1 := 154) (pc := 151) k_Re_next_151 (by decide) (by decide) (by omega) (by omega) (fun hc => ?_) (fun hc => ?_) <;> first | (exfalso; omega) | skip)
        | refine T_icmp_ne_t (tgt := 167) (pc := 151) k_Re_next_151 rfl (by decide) ?_
        | refine T_icmp_ne_f (tgt := 167) (pc1 := 154) (pc := 151) k_Re_next_151 rfl rfl (by decide) ?_
        | refine T_icmp_ne (tgt := 167) (pc1 := 154) (pc := 151) k_Re_next_151 rfl rfl (fun hc => ?_) (fun hc => ?_)
        | refine T_dup (pc1 := 156) (pc := 155) k_Re_next_155 rfl rfl ?_
        | refine T_getV (pc1 := 159) (pc := 156) k_Re_next_156 rfl f_Re_22 rfl (by first | assumption | exact ga G (by decide) rfl | exact lgA LG (by omega)) (by first | assumption | (simp (disch := omega) only [pI_eq, pI_row, pI_col, va_up_self, va_up_ne, ne_eq, not_false_eq_true] <;> rfl) | rfl) ?_
        | refine T_iconst (v := (nI 1)) (pc1 := 160) (pc := 159) k_Re_next_159 rfl (by decide) ?_
        | with_reducible refine T_iaddN (pc1 := 161) (pc := 160) k_Re_next_160 (by decide) ?_
        | refine T_iadd (pc1 := 161) (pc := 160) k_Re_next_160 rfl ?_
        | refine T_putI (pc1 := 164) (pc := 161) k_Re_next_161 rfl f_Re_22 rfl (by first | assumption | exact ga G (by decide) rfl | exact lgA LG (by omega)) (by first | rfl | decide | assumption) (by first | rfl | decide | assumption) ?_
        | refine T_goto (tgt := 118) (pc := 164) k_Re_next_164 rfl ?_)
      all_goals try (exfalso; omega)
      · rw [if_neg (by omega)] at hen
        exact fin ws J hws hw1 (by omega) hJ hk j1 (by rw [← hen]; exact j2) j3
      · rw [if_pos (by omega)] at hen
        exact ih (k + 1) ws _ (by omega) hws hw1 hir (eqx_pI hJ _ (by decide)) (fun j a b c => by rw [pI_col b]; exact hk j a b c) (by rw [pI_col (by decide)]; exact j1) pI_eq (by rw [pI_col (by decide)]; exact j3) hen
  -- behind the spaces
  have mid : ∀ ws (J : IM), (ws = 1 ↔ isr so) → ws ≤ 1 → eqx [66] I J → (∀ k, k ≠ 1 → J 66 k = I 66 k) → J 66 1 = nI (tkS T z e) → Rl 2 M_Re_next 79 [some (.ref 66), some (.int (nI ws)), some (.int (nI e))] [] g J K := by
    intro ws J hws hw1 hJ hk j1
    have cJ := cT _ (eqx_pI (k := 2) (v := nI (tkS T z e)) hJ (show 66 ∈ [66] by decide))
    have y1 : pI J 66 2 (nI (tkS T z e)) 66 1 = nI (tkS T z e) := (pI_col (by decide)).trans j1
    repeat' (first
      | ((first | refine T_aload_n (pc1 := 80) (pc := 79) k_Re_next_79 rfl rfl ?_ | refine T_aload_nN (pc1 := 80) (pc := 79) k_Re_next_79 rfl rfl ?_) <;> try ((first | refine T_aload_n (pc1 := 81) (pc := 80) k_Re_next_80 rfl rfl ?_ | refine T_aload_nN (pc1 := 81) (pc := 80) k_Re_next_80 rfl rfl ?_) <;> try (refine T_getV (pc1 := 84) (pc := 81) k_Re_next_81 rfl f_Re_18 rfl (by first | assumption | exact ga G (by decide) rfl | exact lgA LG (by omega)) (by first | assumption | (simp (disch := omega) only [pI_eq, pI_row, pI_col, va_up_self, va_up_ne, ne_eq, not_false_eq_true] <;> rfl) | rfl) ?_ <;> try (refine T_putI (pc1 := 87) (pc := 84) k_Re_next_84 rfl f_Re_22 rfl (by first | assumption | exact ga G (by decide) rfl | exact lgA LG (by omega)) (by first | rfl | decide | assumption) (by first | rfl | decide | assumption) ?_ <;> try ((first | refine T_aload_n (pc1 := 88) (pc := 87) k_Re_next_87 rfl rfl ?_ | refine T_aload_nN (pc1 := 88) (pc := 87) k_Re_next_87 rfl rfl ?_) <;> try ((first | refine T_aload_n (pc1 := 89) (pc := 88) k_Re_next_88 rfl rfl ?_ | refine T_aload_nN (pc1 := 89) (pc := 88) k_Re_next_88 rfl rfl ?_) <;> try ((first | refine T_aload_n (pc1 := 90) (pc := 89) k_Re_next_89 rfl rfl ?_ | refine T_aload_nN (pc1 := 90) (pc := 89) k_Re_next_89 rfl rfl ?_) <;> try (refine T_getV (pc1 := 93) (pc := 90) k_Re_next_90 rfl f_Re_18 rfl (by first | assumption | exact ga G (by decide) rfl | exact lgA LG (by omega)) (by first | assumption | (simp (disch := omega) only [pI_eq, pI_row, pI_col, va_up_self, va_up_ne, ne_eq, not_false_eq_true] <;> rfl) | rfl) ?_ <;> try ((refine T_cV (As := [_]) (d1 := 1) (pc1 := 96) (pc := 93) k_Re_next_93 rfl (by decide) (Nat.le_of_ble_eq_true rfl) rfl o_Re_sortAt l_Re_153 rfl (by first | assumption | exact ga G (by decide) rfl | exact lgA LG (by omega)) rfl (c_Re_sortAt (k := tkS T z e) G okt cJ (by omega) ?_) <;> try dsimp only [psh]) <;> try (refine T_putI (pc1 := 99) (pc := 96) k_Re_next_96 rfl f_Re_25 rfl (by first | assumption | exact ga G (by decide) rfl | exact lgA LG (by omega)) (by first | rfl | decide | assumption) (by first | rfl | decide | assumption) ?_))))))))))
      | refine T_aload_n (pc1 := 81) (pc := 80) k_Re_next_80 rfl rfl ?_
      | refine T_aload_nN (pc1 := 81) (pc := 80) k_Re_next_80 rfl rfl ?_
      | refine T_getV (pc1 := 84) (pc := 81) k_Re_next_81 rfl f_Re_18 rfl (by first | assumption | exact ga G (by decide) rfl | exact lgA LG (by omega)) (by first | assumption | (simp (disch := omega) only [pI_eq, pI_row, pI_col, va_up_self, va_up_ne, ne_eq, not_false_eq_true] <;> rfl) | rfl) ?_
      | refine T_putI (pc1 := 87) (pc := 84) k_Re_next_84 rfl f_Re_22 rfl (by first | assumption | exact ga G (by decide) rfl | exact lgA LG (by omega)) (by first | rfl | decide | assumption) (by first | rfl | decide | assumption) ?_
      | refine T_aload_n (pc1 := 88) (pc := 87) k_Re_next_87 rfl rfl ?_
      | refine T_aload_nN (pc1 := 88) (pc := 87) k_Re_next_87 rfl rfl ?_
      | refine T_aload_n (pc1 := 89) (pc := 88) k_Re_next_88 rfl rfl ?_
      | refine T_aload_nN (pc1 := 89) (pc := 88) k_Re_next_88 rfl rfl ?_
      | refine T_aload_n (pc1 := 90) (pc := 89) k_Re_next_89 rfl rfl ?_
      | refine T_aload_nN (pc1 := 90) (pc := 89) k_Re_next_89 rfl rfl ?_
      | refine T_getV (pc1 := 93) (pc := 90) k_Re_next_90 rfl f_Re_18 rfl (by first | assumption | exact ga G (by decide) rfl | exact lgA LG (by omega)) (by first | assumption | (simp (disch := omega) only [pI_eq, pI_row, pI_col, va_up_self, va_up_ne, ne_eq, not_false_eq_true] <;> rfl) | rfl) ?_
      | (refine T_cV (As := [_]) (d1 := 1) (pc1 := 96) (pc := 93) k_Re_next_93 rfl (by decide) (Nat.le_of_ble_eq_true rfl) rfl o_Re_sortAt l_Re_153 rfl (by first | assumption | exact ga G (by decide) rfl | exact lgA LG (by omega)) rfl (c_Re_sortAt (k := tkS T z e) G okt cJ (by omega) ?_) <;> try dsimp only [psh])
      | refine T_putI (pc1 := 99) (pc := 96) k_Re_next_96 rfl f_Re_25 rfl (by first | assumption | exact ga G (by decide) rfl | exact lgA LG (by omega)) (by first | rfl | decide | assumption) (by first | rfl | decide | assumption) ?_)
    have z3 : pI (pI J 66 2 (nI (tkS T z e))) 66 3 (nI (srt T z (tkS T z e))) 66 3 = nI (srt T z (tkS T z e)) := pI_eq
    have z2 : pI (pI J 66 2 (nI (tkS T z e))) 66 3 (nI (srt T z (tkS T z e))) 66 2 = nI (tkS T z e) := by rw [pI_col (by decide), pI_eq]
    have z1 : pI (pI J 66 2 (nI (tkS T z e))) 66 3 (nI (srt T z (tkS T z e))) 66 1 = nI (tkS T z e) := by rw [pI_col (by decide)]; exact y1
    have zx : eqx [66] I (pI (pI J 66 2 (nI (tkS T z e))) 66 3 (nI (srt T z (tkS T z e)))) := eqx_pI (eqx_pI hJ _ (by decide)) _ (by decide)
    have zk : ∀ k, k ≠ 1 → k ≠ 2 → k ≠ 3 → pI (pI J 66 2 (nI (tkS T z e))) 66 3 (nI (srt T z (tkS T z e))) 66 k = I 66 k := fun k a b c => by rw [pI_col c, pI_col b]; exact hk k a
    generalize pI (pI J 66 2 (nI (tkS T z e))) 66 3 (nI (srt T z (tkS T z e))) = J2 at *
    by_cases c3 : srt T z (tkS T z e) = 3
    · have hen : tkE T z (tkS T z e) = tkS T z e + 1 := by rw [tkE, if_neg (by omega), if_pos c3]
      repeat' (first
        | ((first | refine T_aload_n (pc1 := 100) (pc := 99) k_Re_next_99 rfl rfl ?_ | refine T_aload_nN (pc1 := 100) (pc := 99) k_Re_next_99 rfl rfl ?_) <;> try (refine T_getV (pc1 := 103) (pc := 100) k_Re_next_100 rfl f_Re_25 rfl (by first | assumption | exact ga G (by decide) rfl | exact lgA LG (by omega)) (by first | assumption | (simp (disch := omega) only [pI_eq, pI_row, pI_col, va_up_self, va_up_ne, ne_eq, not_false_eq_true] <;> rfl) | rfl) ?_ <;> try (refine T_iconst (v := (nI 3)) (pc1 := 104) (pc := 103) k_Re_next_103 rfl (by decide) ?_ <;> try ((first | (with_reducible refine T_icmp_neN (tgt := 118) (pc1 := 107) (pc := 104) k_Re_next_104 (by decide) (by decide) (by omega) (by omega) (fun hc => ?_) (fun hc => ?_) <;> first | (exfalso; omega) | skip) | refine T_icmp_ne_t (tgt := 118) (pc := 104) k_Re_next_104 rfl (by decide) ?_ | refine T_icmp_ne_f (tgt := 118) (pc1 := 107) (pc := 104) k_Re_next_104 rfl rfl (by decide) ?_ | refine T_icmp_ne (tgt := 118) (pc1 := 107) (pc := 104) k_Re_next_104 rfl rfl (fun hc => ?_) (fun hc => ?_))))))
        | ((first | refine T_aload_n (pc1 := 108) (pc := 107) k_Re_next_107 rfl rfl ?_ | refine T_aload_nN (pc1 := 108) (pc := 107) k_Re_next_107 rfl rfl ?_) <;> try (refine T_dup (pc1 := 109) (pc := 108) k_Re_next_108 rfl rfl ?_ <;> try (refine T_getV (pc1 := 112) (pc := 109) k_Re_next_109 rfl f_Re_22 rfl (by first | assumption | exact ga G (by decide) rfl | exact lgA LG (by omega)) (by first | assumption | (simp (disch := omega) only [pI_eq, pI_row, pI_col, va_up_self, va_up_ne, ne_eq, not_false_eq_true] <;> rfl) | rfl) ?_ <;> try (refine T_iconst (v := (nI 1)) (pc1 := 113) (pc := 112) k_Re_next_112 rfl (by decide) ?_ <;> try ((first | with_reducible refine T_iaddN (pc1 := 114) (pc := 113) k_Re_next_113 (by decide) ?_ | refine T_iadd (pc1 := 114) (pc := 113) k_Re_next_113 rfl ?_) <;> try (refine T_putI (pc1 := 117) (pc := 114) k_Re_next_114 rfl f_Re_22 rfl (by first | assumption | exact ga G (by decide) rfl | exact lgA LG (by omega)) (by first | rfl | decide | assumption) (by first | rfl | decide | assumption) ?_ <;> try (refine T_retV (pc := 117) k_Re_next_117 rfl ?_)))))))
        | refine T_getV (pc1 := 103) (pc := 100) k_Re_next_100 rfl f_Re_25 rfl (by first | assumption | exact ga G (by decide) rfl | exact lgA LG (by omega)) (by first | assumption | (simp (disch := omega) only [pI_eq, pI_row, pI_col, va_up_self, va_up_ne, ne_eq, not_false_eq_true] <;> rfl) | rfl) ?_
        | refine T_iconst (v := (nI 3)) (pc1 := 104) (pc := 103) k_Re_next_103 rfl (by decide) ?_
        | (with_reducible refine T_icmp_neN (tgt := 118) (pc1 := 107) (pc := 104) k_Re_next_104 (by decide) (by decide) (by omega) (by omega) (fun hc => ?_) (fun hc => ?_) <;> first | (exfalso; omega) | skip)
        | refine T_icmp_ne_t (tgt := 118) (pc := 104) k_Re_next_104 rfl (by decide) ?_
        | refine T_icmp_ne_f (tgt := 118) (pc1 := 107) (pc := 104) k_Re_next_104 rfl rfl (by decide) ?_
        | refine T_icmp_ne (tgt := 118) (pc1 := 107) (pc := 104) k_Re_next_104 rfl rfl (fun hc => ?_) (fun hc => ?_)
        | refine T_dup (pc1 := 109) (pc := 108) k_Re_next_108 rfl rfl ?_
        | refine T_getV (pc1 := 112) (pc := 109) k_Re_next_109 rfl f_Re_22 rfl (by first | assumption | exact ga G (by decide) rfl | exact lgA LG (by omega)) (by first | assumption | (simp (disch := omega) only [pI_eq, pI_row, pI_col, va_up_self, va_up_ne, ne_eq, not_false_eq_true] <;> rfl) | rfl) ?_
        | refine T_iconst (v := (nI 1)) (pc1 := 113) (pc := 112) k_Re_next_112 rfl (by decide) ?_
        | with_reducible refine T_iaddN (pc1 := 114) (pc := 113) k_Re_next_113 (by decide) ?_
        | refine T_iadd (pc1 := 114) (pc := 113) k_Re_next_113 rfl ?_
        | refine T_putI (pc1 := 117) (pc := 114) k_Re_next_114 rfl f_Re_22 rfl (by first | assumption | exact ga G (by decide) rfl | exact lgA LG (by omega)) (by first | rfl | decide | assumption) (by first | rfl | decide | assumption) ?_
        | refine T_retV (pc := 117) k_Re_next_117 rfl ?_)
      all_goals try (exfalso; omega)
      refine kk _ (eqx_pI zx _ (by decide)) (fun k a b c => by rw [pI_col b]; exact zk k a b c) (by rw [pI_col (by decide)]; exact z1) (by rw [pI_eq, hen]) (by rw [pI_col (by decide), z3, tkO, if_neg (fun q => by have := q.2; omega)])
    · have t1 := (cT J2 zx).1
      by_cases c0 : srt T z (tkS T z e) = 0
      · have hen : tkE T z (tkS T z e) = tkS T z e := by rw [tkE, if_pos c0]
        have hge := h0.mp c0
        have f0 := fin ws J2 hws hw1 c3 zx zk z1 (by rw [hen]; exact z2) z3
        repeat' (first
          | ((first | refine T_aload_n (pc1 := 100) (pc := 99) k_Re_next_99 rfl rfl ?_ | refine T_aload_nN (pc1 := 100) (pc := 99) k_Re_next_99 rfl rfl ?_) <;> try (refine T_getV (pc1 := 103) (pc := 100) k_Re_next_100 rfl f_Re_25 rfl (by first | assumption | exact ga G (by decide) rfl | exact lgA LG (by omega)) (by first | assumption | (simp (disch := omega) only [pI_eq, pI_row, pI_col, va_up_self, va_up_ne, ne_eq, not_false_eq_true] <;> rfl) | rfl) ?_ <;> try (refine T_iconst (v := (nI 3)) (pc1 := 104) (pc := 103) k_Re_next_103 rfl (by decide) ?_ <;> try ((first | (with_reducible refine T_icmp_neN (tgt := 118) (pc1 := 107) (pc := 104) k_Re_next_104 (by decide) (by decide) (by omega) (by omega) (fun hc => ?_) (fun hc => ?_) <;> first | (exfalso; omega) | skip) | refine T_icmp_ne_t (tgt := 118) (pc := 104) k_Re_next_104 rfl (by decide) ?_ | refine T_icmp_ne_f (tgt := 118) (pc1 := 107) (pc := 104) k_Re_next_104 rfl rfl (by decide) ?_ | refine T_icmp_ne (tgt := 118) (pc1 := 107) (pc := 104) k_Re_next_104 rfl rfl (fun hc => ?_) (fun hc => ?_))))))
          | ((first | refine T_aload_n (pc1 := 119) (pc := 118) k_Re_next_118 rfl rfl ?_ | refine T_aload_nN (pc1 := 119) (pc := 118) k_Re_next_118 rfl rfl ?_) <;> try (refine T_getV (pc1 := 122) (pc := 119) k_Re_next_119 rfl f_Re_22 rfl (by first | assumption | exact ga G (by decide) rfl | exact lgA LG (by omega)) (by first | assumption | (simp (disch := omega) only [pI_eq, pI_row, pI_col, va_up_self, va_up_ne, ne_eq, not_false_eq_true] <;> rfl) | rfl) ?_ <;> try ((first | refine T_aload_n (pc1 := 123) (pc := 122) k_Re_next_122 rfl rfl ?_ | refine T_aload_nN (pc1 := 123) (pc := 122) k_Re_next_122 rfl rfl ?_) <;> try (refine T_getR (pc1 := 126) (pc := 123) k_Re_next_123 rfl f_Re_12 rfl (by first | assumption | exact ga G (by decide) rfl | exact lgA LG (by omega)) (by first | assumption | exact gr G (by decide) rfl | exact lgR LG (by omega)) ?_ <;> try (refine T_getV (pc1 := 129) (pc := 126) k_Re_next_126 rfl f_Re_150 rfl (by first | assumption | exact ga G (by decide) rfl | exact lgA LG (by omega)) (by first | assumption | (simp (disch := omega) only [pI_eq, pI_row, pI_col, va_up_self, va_up_ne, ne_eq, not_false_eq_true] <;> rfl) | rfl) ?_ <;> try ((first | (with_reducible refine T_icmp_geN (tgt := 167) (pc1 := 132) (pc := 129) k_Re_next_129 (by decide) (by decide) (by omega) (by omega) (fun hc => ?_) (fun hc => ?_) <;> first | (exfalso; omega) | skip) | refine T_icmp_ge_t (tgt := 167) (pc := 129) k_Re_next_129 rfl (by decide) ?_ | refine T_icmp_ge_f (tgt := 167) (pc1 := 132) (pc := 129) k_Re_next_129 rfl rfl (by decide) ?_ | refine T_icmp_ge (tgt := 167) (pc1 := 132) (pc := 129) k_Re_next_129 rfl rfl (fun hc => ?_) (fun hc => ?_))))))))
          | refine T_getV (pc1 := 103) (pc := 100) k_Re_next_100 rfl f_Re_25 rfl (by first | assumption | exact ga G (by decide) rfl | exact lgA LG (by omega)) (by first | assumption | (simp (disch := omega) only [pI_eq, pI_row, pI_col, va_up_self, va_up_ne, ne_eq, not_false_eq_true] <;> rfl) | rfl) ?_
          | refine T_iconst (v := (nI 3)) (pc1 := 104) (pc := 103) k_Re_next_103 rfl (by decide) ?_
          | (with_reducible refine T_icmp_neN (tgt := 118) (pc1 := 107) (pc := 104) k_Re_next_104 (by decide) (by decide) (by omega) (by omega) (fun hc => ?_) (fun hc => ?_) <;> first | (exfalso; omega) | skip)
          | refine T_icmp_ne_t (tgt := 118) (pc := 104) k_Re_next_104 rfl (by decide) ?_
          | refine T_icmp_ne_f (tgt := 118) (pc1 := 107) (pc := 104) k_Re_next_104 rfl rfl (by decide) ?_
          | refine T_icmp_ne (tgt := 118) (pc1 := 107) (pc := 104) k_Re_next_104 rfl rfl (fun hc => ?_) (fun hc => ?_)
          | refine T_getV (pc1 := 122) (pc := 119) k_Re_next_119 rfl f_Re_22 rfl (by first | assumption | exact ga G (by decide) rfl | exact lgA LG (by omega)) (by first | assumption | (simp (disch := omega) only [pI_eq, pI_row, pI_col, va_up_self, va_up_ne, ne_eq, not_false_eq_true] <;> rfl) | rfl) ?_
          | refine T_aload_n (pc1 := 123) (pc := 122) k_Re_next_122 rfl rfl ?_
          | refine T_aload_nN (pc1 := 123) (pc := 122) k_Re_next_122 rfl rfl ?_
          | refine T_getR (pc1 := 126) (pc := 123) k_Re_next_123 rfl f_Re_12 rfl (by first | assumption | exact ga G (by decide) rfl | exact lgA LG (by omega)) (by first | assumption | exact gr G (by decide) rfl | exact lgR LG (by omega)) ?_
          | refine T_getV (pc1 := 129) (pc := 126) k_Re_next_126 rfl f_Re_150 rfl (by first | assumption | exact ga G (by decide) rfl | exact lgA LG (by omega)) (by first | assumption | (simp (disch := omega) only [pI_eq, pI_row, pI_col, va_up_self, va_up_ne, ne_eq, not_false_eq_true] <;> rfl) | rfl) ?_
          | (with_reducible refine T_icmp_geN (tgt := 167) (pc1 := 132) (pc := 129) k_Re_next_129 (by decide) (by decide) (by omega) (by omega) (fun hc => ?_) (fun hc => ?_) <;> first | (exfalso; omega) | skip)
          | refine T_icmp_ge_t (tgt := 167) (pc := 129) k_Re_next_129 rfl (by decide) ?_
          | refine T_icmp_ge_f (tgt := 167) (pc1 := 132) (pc := 129) k_Re_next_129 rfl rfl (by decide) ?_
          | refine T_icmp_ge (tgt := 167) (pc1 := 132) (pc := 129) k_Re_next_129 rfl rfl (fun hc => ?_) (fun hc => ?_))
        all_goals first | exact f0 | (exfalso; omega)
      · have hlt : tkS T z e < z := by
          refine Decidable.byContradiction fun q => ?_
          exact c0 (h0.mpr q)
        have r0 := run (z - tkS T z e) (tkS T z e) ws J2 (by omega) hws hw1 (by omega) zx zk z1 z2 z3 (by
          rw [show z - tkS T z e = (z - (tkS T z e + 1)) + 1 by omega, rn1, if_pos rfl, tkE, if_neg c0, if_neg c3])
        repeat' (first
          | ((first | refine T_aload_n (pc1 := 100) (pc := 99) k_Re_next_99 rfl rfl ?_ | refine T_aload_nN (pc1 := 100) (pc := 99) k_Re_next_99 rfl rfl ?_) <;> try (refine T_getV (pc1 := 103) (pc := 100) k_Re_next_100 rfl f_Re_25 rfl (by first | assumption | exact ga G (by decide) rfl | exact lgA LG (by omega)) (by first | assumption | (simp (disch := omega) only [pI_eq, pI_row, pI_col, va_up_self, va_up_ne, ne_eq, not_false_eq_true] <;> rfl) | rfl) ?_ <;> try (refine T_iconst (v := (nI 3)) (pc1 := 104) (pc := 103) k_Re_next_103 rfl (by decide) ?_ <;> try ((first | (with_reducible refine T_icmp_neN (tgt := 118) (pc1 := 107) (pc := 104) k_Re_next_104 (by decide) (by decide) (by omega) (by omega) (fun hc => ?_) (fun hc => ?_) <;> first | (exfalso; omega) | skip) | refine T_icmp_ne_t (tgt := 118) (pc := 104) k_Re_next_104 rfl (by decide) ?_ | refine T_icmp_ne_f (tgt := 118) (pc1 := 107) (pc := 104) k_Re_next_104 rfl rfl (by decide) ?_ | refine T_icmp_ne (tgt := 118) (pc1 := 107) (pc := 104) k_Re_next_104 rfl rfl (fun hc => ?_) (fun hc => ?_))))))
          | refine T_getV (pc1 := 103) (pc := 100) k_Re_next_100 rfl f_Re_25 rfl (by first | assumption | exact ga G (by decide) rfl | exact lgA LG (by omega)) (by first | assumption | (simp (disch := omega) only [pI_eq, pI_row, pI_col, va_up_self, va_up_ne, ne_eq, not_false_eq_true] <;> rfl) | rfl) ?_
          | refine T_iconst (v := (nI 3)) (pc1 := 104) (pc := 103) k_Re_next_103 rfl (by decide) ?_
          | (with_reducible refine T_icmp_neN (tgt := 118) (pc1 := 107) (pc := 104) k_Re_next_104 (by decide) (by decide) (by omega) (by omega) (fun hc => ?_) (fun hc => ?_) <;> first | (exfalso; omega) | skip)
          | refine T_icmp_ne_t (tgt := 118) (pc := 104) k_Re_next_104 rfl (by decide) ?_
          | refine T_icmp_ne_f (tgt := 118) (pc1 := 107) (pc := 104) k_Re_next_104 rfl rfl (by decide) ?_
          | refine T_icmp_ne (tgt := 118) (pc1 := 107) (pc := 104) k_Re_next_104 rfl rfl (fun hc => ?_) (fun hc => ?_))
        all_goals first | exact r0 | (exfalso; omega)
  -- the spaces
  have skip : ∀ f k ws (J : IM), k + f = z → e ≤ k → (ws = 1 ↔ isr so) → ws ≤ 1 → eqx [66] I J → (∀ k, k ≠ 1 → J 66 k = I 66 k) → J 66 1 = nI k → skp T f k = tkS T z e → Rl 2 M_Re_next 35 [some (.ref 66), some (.int (nI ws)), some (.int (nI e))] [] g J K := by
    intro f
    induction f with
    | zero =>
      intro k ws J hkf hek hws hw1 hJ hk j1 hsk
      have t1 := (cT J hJ).1
      have hsk : k = tkS T z e := hsk
      have m0 := mid ws J hws hw1 hJ hk (by rw [← hsk]; exact j1)
      repeat' (first
        | ((first | refine T_aload_n (pc1 := 36) (pc := 35) k_Re_next_35 rfl rfl ?_ | refine T_aload_nN (pc1 := 36) (pc := 35) k_Re_next_35 rfl rfl ?_) <;> try (refine T_getV (pc1 := 39) (pc := 36) k_Re_next_36 rfl f_Re_18 rfl (by first | assumption | exact ga G (by decide) rfl | exact lgA LG (by omega)) (by first | assumption | (simp (disch := omega) only [pI_eq, pI_row, pI_col, va_up_self, va_up_ne, ne_eq, not_false_eq_true] <;> rfl) | rfl) ?_ <;> try ((first | refine T_aload_n (pc1 := 40) (pc := 39) k_Re_next_39 rfl rfl ?_ | refine T_aload_nN (pc1 := 40) (pc := 39) k_Re_next_39 rfl rfl ?_) <;> try (refine T_getR (pc1 := 43) (pc := 40) k_Re_next_40 rfl f_Re_12 rfl (by first | assumption | exact ga G (by decide) rfl | exact lgA LG (by omega)) (by first | assumption | exact gr G (by decide) rfl | exact lgR LG (by omega)) ?_ <;> try (refine T_getV (pc1 := 46) (pc := 43) k_Re_next_43 rfl f_Re_150 rfl (by first | assumption | exact ga G (by decide) rfl | exact lgA LG (by omega)) (by first | assumption | (simp (disch := omega) only [pI_eq, pI_row, pI_col, va_up_self, va_up_ne, ne_eq, not_false_eq_true] <;> rfl) | rfl) ?_ <;> try ((first | (with_reducible refine T_icmp_geN (tgt := 79) (pc1 := 49) (pc := 46) k_Re_next_46 (by decide) (by decide) (by omega) (by omega) (fun hc => ?_) (fun hc => ?_) <;> first | (exfalso; omega) | skip) | refine T_icmp_ge_t (tgt := 79) (pc := 46) k_Re_next_46 rfl (by decide) ?_ | refine T_icmp_ge_f (tgt := 79) (pc1 := 49) (pc := 46) k_Re_next_46 rfl rfl (by decide) ?_ | refine T_icmp_ge (tgt := 79) (pc1 := 49) (pc := 46) k_Re_next_46 rfl rfl (fun hc => ?_) (fun hc => ?_))))))))
        | refine T_getV (pc1 := 39) (pc := 36) k_Re_next_36 rfl f_Re_18 rfl (by first | assumption | exact ga G (by decide) rfl | exact lgA LG (by omega)) (by first | assumption | (simp (disch := omega) only [pI_eq, pI_row, pI_col, va_up_self, va_up_ne, ne_eq, not_false_eq_true] <;> rfl) | rfl) ?_
        | refine T_aload_n (pc1 := 40) (pc := 39) k_Re_next_39 rfl rfl ?_
        | refine T_aload_nN (pc1 := 40) (pc := 39) k_Re_next_39 rfl rfl ?_
        | refine T_getR (pc1 := 43) (pc := 40) k_Re_next_40 rfl f_Re_12 rfl (by first | assumption | exact ga G (by decide) rfl | exact lgA LG (by omega)) (by first | assumption | exact gr G (by decide) rfl | exact lgR LG (by omega)) ?_
        | refine T_getV (pc1 := 46) (pc := 43) k_Re_next_43 rfl f_Re_150 rfl (by first | assumption | exact ga G (by decide) rfl | exact lgA LG (by omega)) (by first | assumption | (simp (disch := omega) only [pI_eq, pI_row, pI_col, va_up_self, va_up_ne, ne_eq, not_false_eq_true] <;> rfl) | rfl) ?_
        | (with_reducible refine T_icmp_geN (tgt := 79) (pc1 := 49) (pc := 46) k_Re_next_46 (by decide) (by decide) (by omega) (by omega) (fun hc => ?_) (fun hc => ?_) <;> first | (exfalso; omega) | skip)
        | refine T_icmp_ge_t (tgt := 79) (pc := 46) k_Re_next_46 rfl (by decide) ?_
        | refine T_icmp_ge_f (tgt := 79) (pc1 := 49) (pc := 46) k_Re_next_46 rfl rfl (by decide) ?_
        | refine T_icmp_ge (tgt := 79) (pc1 := 49) (pc := 46) k_Re_next_46 rfl rfl (fun hc => ?_) (fun hc => ?_))
      all_goals first | exact m0 | (exfalso; omega)
    | succ f ih =>
      intro k ws J hkf hek hws hw1 hJ hk j1 hsk
      have t1 := (cT J hJ).1
      have t2 := (cT J hJ).2 k (by omega)
      rw [skp] at hsk
      first | refine T_aload_n (pc1 := 36) (pc := 35) k_Re_next_35 rfl rfl ?_ | refine T_aload_nN (pc1 := 36) (pc := 35) k_Re_next_35 rfl rfl ?_
      repeat' (first
        | (refine T_getV (pc1 := 39) (pc := 36) k_Re_next_36 rfl f_Re_18 rfl (by first | assumption | exact ga G (by decide) rfl | exact lgA LG (by omega)) (by first | assumption | (simp (disch := omega) only [pI_eq, pI_row, pI_col, va_up_self, va_up_ne, ne_eq, not_false_eq_true] <;> rfl) | rfl) ?_ <;> try ((first | refine T_aload_n (pc1 := 40) (pc := 39) k_Re_next_39 rfl rfl ?_ | refine T_aload_nN (pc1 := 40) (pc := 39) k_Re_next_39 rfl rfl ?_) <;> try (refine T_getR (pc1 := 43) (pc := 40) k_Re_next_40 rfl f_Re_12 rfl (by first | assumption | exact ga G (by decide) rfl | exact lgA LG (by omega)) (by first | assumption | exact gr G (by decide) rfl | exact lgR LG (by omega)) ?_ <;> try (refine T_getV (pc1 := 46) (pc := 43) k_Re_next_43 rfl f_Re_150 rfl (by first | assumption | exact ga G (by decide) rfl | exact lgA LG (by omega)) (by first | assumption | (simp (disch := omega) only [pI_eq, pI_row, pI_col, va_up_self, va_up_ne, ne_eq, not_false_eq_true] <;> rfl) | rfl) ?_ <;> try ((first | (with_reducible refine T_icmp_geN (tgt := 79) (pc1 := 49) (pc := 46) k_Re_next_46 (by decide) (by decide) (by omega) (by omega) (fun hc => ?_) (fun hc => ?_) <;> first | (exfalso; omega) | skip) | refine T_icmp_ge_t (tgt := 79) (pc := 46) k_Re_next_46 rfl (by decide) ?_ | refine T_icmp_ge_f (tgt := 79) (pc1 := 49) (pc := 46) k_Re_next_46 rfl rfl (by decide) ?_ | refine T_icmp_ge (tgt := 79) (pc1 := 49) (pc := 46) k_Re_next_46 rfl rfl (fun hc => ?_) (fun hc => ?_)))))))
        | ((first | refine T_aload_n (pc1 := 50) (pc := 49) k_Re_next_49 rfl rfl ?_ | refine T_aload_nN (pc1 := 50) (pc := 49) k_Re_next_49 rfl rfl ?_) <;> try (refine T_getR (pc1 := 53) (pc := 50) k_Re_next_50 rfl f_Re_12 rfl (by first | assumption | exact ga G (by decide) rfl | exact lgA LG (by omega)) (by first | assumption | exact gr G (by decide) rfl | exact lgR LG (by omega)) ?_ <;> try (refine T_getR (pc1 := 56) (pc := 53) k_Re_next_53 rfl f_Re_89 rfl (by first | assumption | exact ga G (by decide) rfl | exact lgA LG (by omega)) (by first | assumption | exact gr G (by decide) rfl | exact lgR LG (by omega)) ?_ <;> try ((first | refine T_aload_n (pc1 := 57) (pc := 56) k_Re_next_56 rfl rfl ?_ | refine T_aload_nN (pc1 := 57) (pc := 56) k_Re_next_56 rfl rfl ?_) <;> try (refine T_getV (pc1 := 60) (pc := 57) k_Re_next_57 rfl f_Re_18 rfl (by first | assumption | exact ga G (by decide) rfl | exact lgA LG (by omega)) (by first | assumption | (simp (disch := omega) only [pI_eq, pI_row, pI_col, va_up_self, va_up_ne, ne_eq, not_false_eq_true] <;> rfl) | rfl) ?_ <;> try ((first | refine T_ialdN (pc1 := 61) (pc := 60) k_Re_next_60 rfl (by first | assumption | exact ga G (by decide) rfl | exact lgA LG (by omega)) (by omega) (by omega) (by first | assumption | (simp (disch := omega) only [pI_eq, pI_row, pI_col, va_up_self, va_up_ne, ne_eq, not_false_eq_true] <;> rfl) | rfl) ?_ | refine T_iald (pc1 := 61) (pc := 60) k_Re_next_60 rfl (by first | assumption | exact ga G (by decide) rfl | exact lgA LG (by omega)) (by assumption) ?_) <;> try (refine T_bipush (v := (nI 32)) (pc1 := 63) (pc := 61) k_Re_next_61 rfl (by decide) ?_ <;> try (refine T_icmp_ne (tgt := 79) (pc1 := 66) (pc := 63) k_Re_next_63 rfl rfl (fun hcE => ?_) (fun hcE => ?_)))))))))
        | ((first | refine T_aload_n (pc1 := 67) (pc := 66) k_Re_next_66 rfl rfl ?_ | refine T_aload_nN (pc1 := 67) (pc := 66) k_Re_next_66 rfl rfl ?_) <;> try (refine T_dup (pc1 := 68) (pc := 67) k_Re_next_67 rfl rfl ?_ <;> try (refine T_getV (pc1 := 71) (pc := 68) k_Re_next_68 rfl f_Re_18 rfl (by first | assumption | exact ga G (by decide) rfl | exact lgA LG (by omega)) (by first | assumption | (simp (disch := omega) only [pI_eq, pI_row, pI_col, va_up_self, va_up_ne, ne_eq, not_false_eq_true] <;> rfl) | rfl) ?_ <;> try (refine T_iconst (v := (nI 1)) (pc1 := 72) (pc := 71) k_Re_next_71 rfl (by decide) ?_ <;> try ((first | with_reducible refine T_iaddN (pc1 := 73) (pc := 72) k_Re_next_72 (by decide) ?_ | refine T_iadd (pc1 := 73) (pc := 72) k_Re_next_72 rfl ?_) <;> try (refine T_putI (pc1 := 76) (pc := 73) k_Re_next_73 rfl f_Re_18 rfl (by first | assumption | exact ga G (by decide) rfl | exact lgA LG (by omega)) (by first | rfl | decide | assumption) (by first | rfl | decide | assumption) ?_ <;> try (refine T_goto (tgt := 35) (pc := 76) k_Re_next_76 rfl ?_)))))))
        | refine T_aload_n (pc1 := 40) (pc := 39) k_Re_next_39 rfl rfl ?_
        | refine T_aload_nN (pc1 := 40) (pc := 39) k_Re_next_39 rfl rfl ?_
        | refine T_getR (pc1 := 43) (pc := 40) k_Re_next_40 rfl f_Re_12 rfl (by first | assumption | exact ga G (by decide) rfl | exact lgA LG (by omega)) (by first | assumption | exact gr G (by decide) rfl | exact lgR LG (by omega)) ?_
        | refine T_getV (pc1 := 46) (pc := 43) k_Re_next_43 rfl f_Re_150 rfl (by first | assumption | exact ga G (by decide) rfl | exact lgA LG (by omega)) (by first | assumption | (simp (disch := omega) only [pI_eq, pI_row, pI_col, va_up_self, va_up_ne, ne_eq, not_false_eq_true] <;> rfl) | rfl) ?_
        | (with_reducible refine T_icmp_geN (tgt := 79) (pc1 := 49) (pc := 46) k_Re_next_46 (by decide) (by decide) (by omega) (by omega) (fun hc => ?_) (fun hc => ?_) <;> first | (exfalso; omega) | skip)
        | refine T_icmp_ge_t (tgt := 79) (pc := 46) k_Re_next_46 rfl (by decide) ?_
        | refine T_icmp_ge_f (tgt := 79) (pc1 := 49) (pc := 46) k_Re_next_46 rfl rfl (by decide) ?_
        | refine T_icmp_ge (tgt := 79) (pc1 := 49) (pc := 46) k_Re_next_46 rfl rfl (fun hc => ?_) (fun hc => ?_)
        | refine T_getR (pc1 := 53) (pc := 50) k_Re_next_50 rfl f_Re_12 rfl (by first | assumption | exact ga G (by decide) rfl | exact lgA LG (by omega)) (by first | assumption | exact gr G (by decide) rfl | exact lgR LG (by omega)) ?_
        | refine T_getR (pc1 := 56) (pc := 53) k_Re_next_53 rfl f_Re_89 rfl (by first | assumption | exact ga G (by decide) rfl | exact lgA LG (by omega)) (by first | assumption | exact gr G (by decide) rfl | exact lgR LG (by omega)) ?_
        | refine T_aload_n (pc1 := 57) (pc := 56) k_Re_next_56 rfl rfl ?_
        | refine T_aload_nN (pc1 := 57) (pc := 56) k_Re_next_56 rfl rfl ?_
        | refine T_getV (pc1 := 60) (pc := 57) k_Re_next_57 rfl f_Re_18 rfl (by first | assumption | exact ga G (by decide) rfl | exact lgA LG (by omega)) (by first | assumption | (simp (disch := omega) only [pI_eq, pI_row, pI_col, va_up_self, va_up_ne, ne_eq, not_false_eq_true] <;> rfl) | rfl) ?_
        | refine T_ialdN (pc1 := 61) (pc := 60) k_Re_next_60 rfl (by first | assumption | exact ga G (by decide) rfl | exact lgA LG (by omega)) (by omega) (by omega) (by first | assumption | (simp (disch := omega) only [pI_eq, pI_row, pI_col, va_up_self, va_up_ne, ne_eq, not_false_eq_true] <;> rfl) | rfl) ?_
        | refine T_iald (pc1 := 61) (pc := 60) k_Re_next_60 rfl (by first | assumption | exact ga G (by decide) rfl | exact lgA LG (by omega)) (by assumption) ?_
        | refine T_bipush (v := (nI 32)) (pc1 := 63) (pc := 61) k_Re_next_61 rfl (by decide) ?_
        | refine T_icmp_ne (tgt := 79) (pc1 := 66) (pc := 63) k_Re_next_63 rfl rfl (fun hcE => ?_) (fun hcE => ?_)
        | refine T_dup (pc1 := 68) (pc := 67) k_Re_next_67 rfl rfl ?_
        | refine T_getV (pc1 := 71) (pc := 68) k_Re_next_68 rfl f_Re_18 rfl (by first | assumption | exact ga G (by decide) rfl | exact lgA LG (by omega)) (by first | assumption | (simp (disch := omega) only [pI_eq, pI_row, pI_col, va_up_self, va_up_ne, ne_eq, not_false_eq_true] <;> rfl) | rfl) ?_
        | refine T_iconst (v := (nI 1)) (pc1 := 72) (pc := 71) k_Re_next_71 rfl (by decide) ?_
        | with_reducible refine T_iaddN (pc1 := 73) (pc := 72) k_Re_next_72 (by decide) ?_
        | refine T_iadd (pc1 := 73) (pc := 72) k_Re_next_72 rfl ?_
        | refine T_putI (pc1 := 76) (pc := 73) k_Re_next_73 rfl f_Re_18 rfl (by first | assumption | exact ga G (by decide) rfl | exact lgA LG (by omega)) (by first | rfl | decide | assumption) (by first | rfl | decide | assumption) ?_
        | refine T_goto (tgt := 35) (pc := 76) k_Re_next_76 rfl ?_)
      all_goals try (exfalso; omega)
      · rw [if_neg hcE] at hsk
        exact mid ws J hws hw1 hJ hk (by rw [← hsk]; exact j1)
      · rw [if_pos (Decidable.not_not.mp hcE)] at hsk
        exact ih (k + 1) ws _ (by omega) (by omega) hws hw1 (eqx_pI hJ _ (by decide)) (fun j a => by rw [pI_col a]; exact hk j a) pI_eq hsk
  have beg : ∀ ws, (ws = 1 ↔ isr so) → ws ≤ 1 → Rl 2 M_Re_next 22 [some (.ref 66), some (.int (nI ws)), none] [] g I K := by
    intro ws hws hw1
    repeat' (first
      | ((first | refine T_aload_n (pc1 := 23) (pc := 22) k_Re_next_22 rfl rfl ?_ | refine T_aload_nN (pc1 := 23) (pc := 22) k_Re_next_22 rfl rfl ?_) <;> try (refine T_getV (pc1 := 26) (pc := 23) k_Re_next_23 rfl f_Re_22 rfl (by first | assumption | exact ga G (by decide) rfl | exact lgA LG (by omega)) (by first | assumption | (simp (disch := omega) only [pI_eq, pI_row, pI_col, va_up_self, va_up_ne, ne_eq, not_false_eq_true] <;> rfl) | rfl) ?_ <;> try (refine T_istore_n (pc1 := 27) (pc := 26) k_Re_next_26 rfl (Nat.le_of_ble_eq_true rfl) ?_ <;> try ((first | refine T_aload_n (pc1 := 28) (pc := 27) k_Re_next_27 rfl rfl ?_ | refine T_aload_nN (pc1 := 28) (pc := 27) k_Re_next_27 rfl rfl ?_) <;> try ((first | refine T_aload_n (pc1 := 29) (pc := 28) k_Re_next_28 rfl rfl ?_ | refine T_aload_nN (pc1 := 29) (pc := 28) k_Re_next_28 rfl rfl ?_) <;> try (refine T_getV (pc1 := 32) (pc := 29) k_Re_next_29 rfl f_Re_22 rfl (by first | assumption | exact ga G (by decide) rfl | exact lgA LG (by omega)) (by first | assumption | (simp (disch := omega) only [pI_eq, pI_row, pI_col, va_up_self, va_up_ne, ne_eq, not_false_eq_true] <;> rfl) | rfl) ?_ <;> try (refine T_putI (pc1 := 35) (pc := 32) k_Re_next_32 rfl f_Re_18 rfl (by first | assumption | exact ga G (by decide) rfl | exact lgA LG (by omega)) (by first | rfl | decide | assumption) (by first | rfl | decide | assumption) ?_)))))))
      | refine T_getV (pc1 := 26) (pc := 23) k_Re_next_23 rfl f_Re_22 rfl (by first | assumption | exact ga G (by decide) rfl | exact lgA LG (by omega)) (by first | assumption | (simp (disch := omega) only [pI_eq, pI_row, pI_col, va_up_self, va_up_ne, ne_eq, not_false_eq_true] <;> rfl) | rfl) ?_
      | refine T_istore_n (pc1 := 27) (pc := 26) k_Re_next_26 rfl (Nat.le_of_ble_eq_true rfl) ?_
      | refine T_aload_n (pc1 := 28) (pc := 27) k_Re_next_27 rfl rfl ?_
      | refine T_aload_nN (pc1 := 28) (pc := 27) k_Re_next_27 rfl rfl ?_
      | refine T_aload_n (pc1 := 29) (pc := 28) k_Re_next_28 rfl rfl ?_
      | refine T_aload_nN (pc1 := 29) (pc := 28) k_Re_next_28 rfl rfl ?_
      | refine T_getV (pc1 := 32) (pc := 29) k_Re_next_29 rfl f_Re_22 rfl (by first | assumption | exact ga G (by decide) rfl | exact lgA LG (by omega)) (by first | assumption | (simp (disch := omega) only [pI_eq, pI_row, pI_col, va_up_self, va_up_ne, ne_eq, not_false_eq_true] <;> rfl) | rfl) ?_
      | refine T_putI (pc1 := 35) (pc := 32) k_Re_next_32 rfl f_Re_18 rfl (by first | assumption | exact ga G (by decide) rfl | exact lgA LG (by omega)) (by first | rfl | decide | assumption) (by first | rfl | decide | assumption) ?_)
    exact skip (z - e) e ws _ (by omega) (Nat.le_refl _) hws hw1 (eqx_pI eqx_rf _ (by decide)) (fun j a => pI_col a) pI_eq rfl
  repeat' (first
    | ((first | refine T_aload_n (pc1 := 1) (pc := 0) k_Re_next_0 rfl rfl ?_ | refine T_aload_nN (pc1 := 1) (pc := 0) k_Re_next_0 rfl rfl ?_) <;> try (refine T_getV (pc1 := 4) (pc := 1) k_Re_next_1 rfl f_Re_25 rfl (by first | assumption | exact ga G (by decide) rfl | exact lgA LG (by omega)) (by first | assumption | (simp (disch := omega) only [pI_eq, pI_row, pI_col, va_up_self, va_up_ne, ne_eq, not_false_eq_true] <;> rfl) | rfl) ?_ <;> try (refine T_iconst (v := (nI 1)) (pc1 := 5) (pc := 4) k_Re_next_4 rfl (by decide) ?_ <;> try ((first | (with_reducible refine T_icmp_eqN (tgt := 16) (pc1 := 8) (pc := 5) k_Re_next_5 (by decide) (by decide) (by omega) (by omega) (fun hc => ?_) (fun hc => ?_) <;> first | (exfalso; omega) | skip) | refine T_icmp_eq_t (tgt := 16) (pc := 5) k_Re_next_5 rfl (by decide) ?_ | refine T_icmp_eq_f (tgt := 16) (pc1 := 8) (pc := 5) k_Re_next_5 rfl rfl (by decide) ?_ | refine T_icmp_eq (tgt := 16) (pc1 := 8) (pc := 5) k_Re_next_5 rfl rfl (fun hc => ?_) (fun hc => ?_))))))
    | ((first | refine T_aload_n (pc1 := 9) (pc := 8) k_Re_next_8 rfl rfl ?_ | refine T_aload_nN (pc1 := 9) (pc := 8) k_Re_next_8 rfl rfl ?_) <;> try (refine T_getV (pc1 := 12) (pc := 9) k_Re_next_9 rfl f_Re_25 rfl (by first | assumption | exact ga G (by decide) rfl | exact lgA LG (by omega)) (by first | assumption | (simp (disch := omega) only [pI_eq, pI_row, pI_col, va_up_self, va_up_ne, ne_eq, not_false_eq_true] <;> rfl) | rfl) ?_ <;> try (refine T_iconst (v := (nI 2)) (pc1 := 13) (pc := 12) k_Re_next_12 rfl (by decide) ?_ <;> try ((first | (with_reducible refine T_icmp_neN (tgt := 20) (pc1 := 16) (pc := 13) k_Re_next_13 (by decide) (by decide) (by omega) (by omega) (fun hc => ?_) (fun hc => ?_) <;> first | (exfalso; omega) | skip) | refine T_icmp_ne_t (tgt := 20) (pc := 13) k_Re_next_13 rfl (by decide) ?_ | refine T_icmp_ne_f (tgt := 20) (pc1 := 16) (pc := 13) k_Re_next_13 rfl rfl (by decide) ?_ | refine T_icmp_ne (tgt := 20) (pc1 := 16) (pc := 13) k_Re_next_13 rfl rfl (fun hc => ?_) (fun hc => ?_))))))
    | (refine T_iconst (v := (nI 1)) (pc1 := 17) (pc := 16) k_Re_next_16 rfl (by decide) ?_ <;> try (refine T_goto (tgt := 21) (pc := 17) k_Re_next_17 rfl ?_))
    | (refine T_iconst (v := (nI 0)) (pc1 := 21) (pc := 20) k_Re_next_20 rfl (by decide) ?_)
    | (refine T_istore_n (pc1 := 22) (pc := 21) k_Re_next_21 rfl (Nat.le_of_ble_eq_true rfl) ?_)
    | refine T_getV (pc1 := 4) (pc := 1) k_Re_next_1 rfl f_Re_25 rfl (by first | assumption | exact ga G (by decide) rfl | exact lgA LG (by omega)) (by first | assumption | (simp (disch := omega) only [pI_eq, pI_row, pI_col, va_up_self, va_up_ne, ne_eq, not_false_eq_true] <;> rfl) | rfl) ?_
    | refine T_iconst (v := (nI 1)) (pc1 := 5) (pc := 4) k_Re_next_4 rfl (by decide) ?_
    | (with_reducible refine T_icmp_eqN (tgt := 16) (pc1 := 8) (pc := 5) k_Re_next_5 (by decide) (by decide) (by omega) (by omega) (fun hc => ?_) (fun hc => ?_) <;> first | (exfalso; omega) | skip)
    | refine T_icmp_eq_t (tgt := 16) (pc := 5) k_Re_next_5 rfl (by decide) ?_
    | refine T_icmp_eq_f (tgt := 16) (pc1 := 8) (pc := 5) k_Re_next_5 rfl rfl (by decide) ?_
    | refine T_icmp_eq (tgt := 16) (pc1 := 8) (pc := 5) k_Re_next_5 rfl rfl (fun hc => ?_) (fun hc => ?_)
    | refine T_getV (pc1 := 12) (pc := 9) k_Re_next_9 rfl f_Re_25 rfl (by first | assumption | exact ga G (by decide) rfl | exact lgA LG (by omega)) (by first | assumption | (simp (disch := omega) only [pI_eq, pI_row, pI_col, va_up_self, va_up_ne, ne_eq, not_false_eq_true] <;> rfl) | rfl) ?_
    | refine T_iconst (v := (nI 2)) (pc1 := 13) (pc := 12) k_Re_next_12 rfl (by decide) ?_
    | (with_reducible refine T_icmp_neN (tgt := 20) (pc1 := 16) (pc := 13) k_Re_next_13 (by decide) (by decide) (by omega) (by omega) (fun hc => ?_) (fun hc => ?_) <;> first | (exfalso; omega) | skip)
    | refine T_icmp_ne_t (tgt := 20) (pc := 13) k_Re_next_13 rfl (by decide) ?_
    | refine T_icmp_ne_f (tgt := 20) (pc1 := 16) (pc := 13) k_Re_next_13 rfl rfl (by decide) ?_
    | refine T_icmp_ne (tgt := 20) (pc1 := 16) (pc := 13) k_Re_next_13 rfl rfl (fun hc => ?_) (fun hc => ?_)
    | refine T_goto (tgt := 21) (pc := 17) k_Re_next_17 rfl ?_)
  all_goals first | exact beg 1 (by omega) (by omega) | exact beg 0 (by omega) (by omega) | (exfalso; omega)
end R1
