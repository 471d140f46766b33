section SW
variable {d : Nat} {L : Lcl} {S : List Value} {g : Geo} {I : IM} {P : Option Value → Geo → IM → Prop}
theorem sw_in {μ : Mth} {pc : Nat} {dflt lo hi : Int} {offs : Array Int} {len : Nat} {x : Int32} (j : Nat) {off : Int} {tgt : Nat} (hf : Fe μ pc (.tableswitch dflt lo hi offs) len) (hx : x.toInt = lo + j) (hj : lo + j ≤ hi) (ho : offs[j]? = some off) (ht : (pc : Int) + off = (tgt : Int)) (kR : Rl d μ tgt L S g I P) : Rl d μ pc L (.int x :: S) g I P := by
  refine T_tableIn hf (by omega) (by omega) ?_ ht kR
  rw [hx, show lo + (j : Int) - lo = (j : Int) by omega, Int.toNat_natCast]
  exact ho
theorem sw_B_takes_4 {x : Int32} (k0 : x.toInt = 1 → Rl d M_B_takes 40 L S g I P) (k1 : x.toInt = 2 → Rl d M_B_takes 58 L S g I P) (k2 : x.toInt = 3 → Rl d M_B_takes 46 L S g I P) (k3 : x.toInt = 4 → Rl d M_B_takes 58 L S g I P) (k4 : x.toInt = 5 → Rl d M_B_takes 71 L S g I P) (kd : (x.toInt < 1 ∨ 5 < x.toInt) → Rl d M_B_takes 76 L S g I P) : Rl d M_B_takes 4 L (.int x :: S) g I P := by
  by_cases h0 : x.toInt = 1
  · exact sw_in 0 k_B_takes_4 (by rw [h0]; rfl) (by decide) rfl rfl (k0 h0)
  by_cases h1 : x.toInt = 2
  · exact sw_in 1 k_B_takes_4 (by rw [h1]; rfl) (by decide) rfl rfl (k1 h1)
  by_cases h2 : x.toInt = 3
  · exact sw_in 2 k_B_takes_4 (by rw [h2]; rfl) (by decide) rfl rfl (k2 h2)
  by_cases h3 : x.toInt = 4
  · exact sw_in 3 k_B_takes_4 (by rw [h3]; rfl) (by decide) rfl rfl (k3 h3)
  by_cases h4 : x.toInt = 5
  · exact sw_in 4 k_B_takes_4 (by rw [h4]; rfl) (by decide) rfl rfl (k4 h4)
  exact T_tableOut k_B_takes_4 (by omega) rfl (kd (by omega))
theorem swN_B_takes_4 {a : Nat} (ha : a < 2147483648) (k0 : a = 1 → Rl d M_B_takes 40 L S g I P) (k1 : a = 2 → Rl d M_B_takes 58 L S g I P) (k2 : a = 3 → Rl d M_B_takes 46 L S g I P) (k3 : a = 4 → Rl d M_B_takes 58 L S g I P) (k4 : a = 5 → Rl d M_B_takes 71 L S g I P) (kd : (a < 1 ∨ 5 < a) → Rl d M_B_takes 76 L S g I P) : Rl d M_B_takes 4 L (.int (nI a) :: S) g I P := by
  have e := nI_toInt ha
  exact sw_B_takes_4 (fun h => k0 (by omega)) (fun h => k1 (by omega)) (fun h => k2 (by omega)) (fun h => k3 (by omega)) (fun h => k4 (by omega)) (fun h => kd (by omega))
theorem sw_B_worth_4 {x : Int32} (k0 : x.toInt = 1 → Rl d M_B_worth 40 L S g I P) (k1 : x.toInt = 2 → Rl d M_B_worth 52 L S g I P) (k2 : x.toInt = 3 → Rl d M_B_worth 45 L S g I P) (k3 : x.toInt = 4 → Rl d M_B_worth 57 L S g I P) (k4 : x.toInt = 5 → Rl d M_B_worth 65 L S g I P) (kd : (x.toInt < 1 ∨ 5 < x.toInt) → Rl d M_B_worth 68 L S g I P) : Rl d M_B_worth 4 L (.int x :: S) g I P := by
  by_cases h0 : x.toInt = 1
  · exact sw_in 0 k_B_worth_4 (by rw [h0]; rfl) (by decide) rfl rfl (k0 h0)
  by_cases h1 : x.toInt = 2
  · exact sw_in 1 k_B_worth_4 (by rw [h1]; rfl) (by decide) rfl rfl (k1 h1)
  by_cases h2 : x.toInt = 3
  · exact sw_in 2 k_B_worth_4 (by rw [h2]; rfl) (by decide) rfl rfl (k2 h2)
  by_cases h3 : x.toInt = 4
  · exact sw_in 3 k_B_worth_4 (by rw [h3]; rfl) (by decide) rfl rfl (k3 h3)
  by_cases h4 : x.toInt = 5
  · exact sw_in 4 k_B_worth_4 (by rw [h4]; rfl) (by decide) rfl rfl (k4 h4)
  exact T_tableOut k_B_worth_4 (by omega) rfl (kd (by omega))
theorem swN_B_worth_4 {a : Nat} (ha : a < 2147483648) (k0 : a = 1 → Rl d M_B_worth 40 L S g I P) (k1 : a = 2 → Rl d M_B_worth 52 L S g I P) (k2 : a = 3 → Rl d M_B_worth 45 L S g I P) (k3 : a = 4 → Rl d M_B_worth 57 L S g I P) (k4 : a = 5 → Rl d M_B_worth 65 L S g I P) (kd : (a < 1 ∨ 5 < a) → Rl d M_B_worth 68 L S g I P) : Rl d M_B_worth 4 L (.int (nI a) :: S) g I P := by
  have e := nI_toInt ha
  exact sw_B_worth_4 (fun h => k0 (by omega)) (fun h => k1 (by omega)) (fun h => k2 (by omega)) (fun h => k3 (by omega)) (fun h => k4 (by omega)) (fun h => kd (by omega))
theorem sw_Re_signsOf_1 {x : Int32} (k0 : x.toInt = 0 → Rl d M_Re_signsOf 32 L S g I P) (k1 : x.toInt = 1 → Rl d M_Re_signsOf 35 L S g I P) (k2 : x.toInt = 2 → Rl d M_Re_signsOf 38 L S g I P) (k3 : x.toInt = 3 → Rl d M_Re_signsOf 41 L S g I P) (kd : (x.toInt < 0 ∨ 3 < x.toInt) → Rl d M_Re_signsOf 44 L S g I P) : Rl d M_Re_signsOf 1 L (.int x :: S) g I P := by
  by_cases h0 : x.toInt = 0
  · exact sw_in 0 k_Re_signsOf_1 (by rw [h0]; rfl) (by decide) rfl rfl (k0 h0)
  by_cases h1 : x.toInt = 1
  · exact sw_in 1 k_Re_signsOf_1 (by rw [h1]; rfl) (by decide) rfl rfl (k1 h1)
  by_cases h2 : x.toInt = 2
  · exact sw_in 2 k_Re_signsOf_1 (by rw [h2]; rfl) (by decide) rfl rfl (k2 h2)
  by_cases h3 : x.toInt = 3
  · exact sw_in 3 k_Re_signsOf_1 (by rw [h3]; rfl) (by decide) rfl rfl (k3 h3)
  exact T_tableOut k_Re_signsOf_1 (by omega) rfl (kd (by omega))
theorem swN_Re_signsOf_1 {a : Nat} (ha : a < 2147483648) (k0 : a = 0 → Rl d M_Re_signsOf 32 L S g I P) (k1 : a = 1 → Rl d M_Re_signsOf 35 L S g I P) (k2 : a = 2 → Rl d M_Re_signsOf 38 L S g I P) (k3 : a = 3 → Rl d M_Re_signsOf 41 L S g I P) (kd : (a < 0 ∨ 3 < a) → Rl d M_Re_signsOf 44 L S g I P) : Rl d M_Re_signsOf 1 L (.int (nI a) :: S) g I P := by
  have e := nI_toInt ha
  exact sw_Re_signsOf_1 (fun h => k0 (by omega)) (fun h => k1 (by omega)) (fun h => k2 (by omega)) (fun h => k3 (by omega)) (fun h => kd (by omega))
theorem sw_Re_namesOf_1 {x : Int32} (k0 : x.toInt = 0 → Rl d M_Re_namesOf 28 L S g I P) (k1 : x.toInt = 1 → Rl d M_Re_namesOf 31 L S g I P) (kd : x.toInt ≠ 0 ∧ x.toInt ≠ 1 → Rl d M_Re_namesOf 34 L S g I P) : Rl d M_Re_namesOf 1 L (.int x :: S) g I P := by
  by_cases h0 : x.toInt = 0
  · exact T_lookup k_Re_namesOf_1 (by decide) (by rw [h0]) rfl (k0 h0)
  by_cases h1 : x.toInt = 1
  · exact T_lookup k_Re_namesOf_1 (by decide) (by rw [h1]) rfl (k1 h1)
  exact T_lookup (off := 33) k_Re_namesOf_1 (by decide) (by simp [Op.lookupswitch.offset, show ¬ (0 : Int) = x.toInt from fun q => h0 q.symm, show ¬ (1 : Int) = x.toInt from fun q => h1 q.symm]) rfl (kd ⟨h0, h1⟩)
theorem swN_Re_namesOf_1 {a : Nat} (ha : a < 2147483648) (k0 : a = 0 → Rl d M_Re_namesOf 28 L S g I P) (k1 : a = 1 → Rl d M_Re_namesOf 31 L S g I P) (kd : a ≠ 0 ∧ a ≠ 1 → Rl d M_Re_namesOf 34 L S g I P) : Rl d M_Re_namesOf 1 L (.int (nI a) :: S) g I P := by
  have e := nI_toInt ha
  exact sw_Re_namesOf_1 (fun h => k0 (by omega)) (fun h => k1 (by omega)) (fun h => kd (by omega))
theorem sw_Te_operand_1 {x : Int32} (k0 : x.toInt = -3 → Rl d M_Te_operand 32 L S g I P) (k1 : x.toInt = -2 → Rl d M_Te_operand 30 L S g I P) (k2 : x.toInt = -1 → Rl d M_Te_operand 28 L S g I P) (kd : (x.toInt < -3 ∨ -1 < x.toInt) → Rl d M_Te_operand 34 L S g I P) : Rl d M_Te_operand 1 L (.int x :: S) g I P := by
  by_cases h0 : x.toInt = -3
  · exact sw_in 0 k_Te_operand_1 (by rw [h0]; rfl) (by decide) rfl rfl (k0 h0)
  by_cases h1 : x.toInt = -2
  · exact sw_in 1 k_Te_operand_1 (by rw [h1]; rfl) (by decide) rfl rfl (k1 h1)
  by_cases h2 : x.toInt = -1
  · exact sw_in 2 k_Te_operand_1 (by rw [h2]; rfl) (by decide) rfl rfl (k2 h2)
  exact T_tableOut k_Te_operand_1 (by omega) rfl (kd (by omega))
theorem sw_Te_joined_1 {x : Int32} (k0 : x.toInt = 38 → Rl d M_Te_joined 98 L S g I P) (k1 : x.toInt = 42 → Rl d M_Te_joined 153 L S g I P) (k2 : x.toInt = 43 → Rl d M_Te_joined 145 L S g I P) (k3 : x.toInt = 45 → Rl d M_Te_joined 149 L S g I P) (k4 : x.toInt = 47 → Rl d M_Te_joined 157 L S g I P) (k5 : x.toInt = 60 → Rl d M_Te_joined 112 L S g I P) (k6 : x.toInt = 61 → Rl d M_Te_joined 123 L S g I P) (k7 : x.toInt = 62 → Rl d M_Te_joined 134 L S g I P) (k8 : x.toInt = 124 → Rl d M_Te_joined 84 L S g I P) (kd : x.toInt ≠ 38 ∧ x.toInt ≠ 42 ∧ x.toInt ≠ 43 ∧ x.toInt ≠ 45 ∧ x.toInt ≠ 47 ∧ x.toInt ≠ 60 ∧ x.toInt ≠ 61 ∧ x.toInt ≠ 62 ∧ x.toInt ≠ 124 → Rl d M_Te_joined 169 L S g I P) : Rl d M_Te_joined 1 L (.int x :: S) g I P := by
  by_cases h0 : x.toInt = 38
  · exact T_lookup k_Te_joined_1 (by decide) (by rw [h0]) rfl (k0 h0)
  by_cases h1 : x.toInt = 42
  · exact T_lookup k_Te_joined_1 (by decide) (by rw [h1]) rfl (k1 h1)
  by_cases h2 : x.toInt = 43
  · exact T_lookup k_Te_joined_1 (by decide) (by rw [h2]) rfl (k2 h2)
  by_cases h3 : x.toInt = 45
  · exact T_lookup k_Te_joined_1 (by decide) (by rw [h3]) rfl (k3 h3)
  by_cases h4 : x.toInt = 47
  · exact T_lookup k_Te_joined_1 (by decide) (by rw [h4]) rfl (k4 h4)
  by_cases h5 : x.toInt = 60
  · exact T_lookup k_Te_joined_1 (by decide) (by rw [h5]) rfl (k5 h5)
  by_cases h6 : x.toInt = 61
  · exact T_lookup k_Te_joined_1 (by decide) (by rw [h6]) rfl (k6 h6)
  by_cases h7 : x.toInt = 62
  · exact T_lookup k_Te_joined_1 (by decide) (by rw [h7]) rfl (k7 h7)
  by_cases h8 : x.toInt = 124
  · exact T_lookup k_Te_joined_1 (by decide) (by rw [h8]) rfl (k8 h8)
  exact T_lookup (off := 168) k_Te_joined_1 (by decide) (by simp [Op.lookupswitch.offset, show ¬ (38 : Int) = x.toInt from fun q => h0 q.symm, show ¬ (42 : Int) = x.toInt from fun q => h1 q.symm, show ¬ (43 : Int) = x.toInt from fun q => h2 q.symm, show ¬ (45 : Int) = x.toInt from fun q => h3 q.symm, show ¬ (47 : Int) = x.toInt from fun q => h4 q.symm, show ¬ (60 : Int) = x.toInt from fun q => h5 q.symm, show ¬ (61 : Int) = x.toInt from fun q => h6 q.symm, show ¬ (62 : Int) = x.toInt from fun q => h7 q.symm, show ¬ (124 : Int) = x.toInt from fun q => h8 q.symm]) rfl (kd ⟨h0, h1, h2, h3, h4, h5, h6, h7, h8⟩)
theorem swN_Te_joined_1 {a : Nat} (ha : a < 2147483648) (k0 : a = 38 → Rl d M_Te_joined 98 L S g I P) (k1 : a = 42 → Rl d M_Te_joined 153 L S g I P) (k2 : a = 43 → Rl d M_Te_joined 145 L S g I P) (k3 : a = 45 → Rl d M_Te_joined 149 L S g I P) (k4 : a = 47 → Rl d M_Te_joined 157 L S g I P) (k5 : a = 60 → Rl d M_Te_joined 112 L S g I P) (k6 : a = 61 → Rl d M_Te_joined 123 L S g I P) (k7 : a = 62 → Rl d M_Te_joined 134 L S g I P) (k8 : a = 124 → Rl d M_Te_joined 84 L S g I P) (kd : a ≠ 38 ∧ a ≠ 42 ∧ a ≠ 43 ∧ a ≠ 45 ∧ a ≠ 47 ∧ a ≠ 60 ∧ a ≠ 61 ∧ a ≠ 62 ∧ a ≠ 124 → Rl d M_Te_joined 169 L S g I P) : Rl d M_Te_joined 1 L (.int (nI a) :: S) g I P := by
  have e := nI_toInt ha
  exact sw_Te_joined_1 (fun h => k0 (by omega)) (fun h => k1 (by omega)) (fun h => k2 (by omega)) (fun h => k3 (by omega)) (fun h => k4 (by omega)) (fun h => k5 (by omega)) (fun h => k6 (by omega)) (fun h => k7 (by omega)) (fun h => k8 (by omega)) (fun h => kd (by omega))
theorem sw_S_told_25 {x : Int32} (k0 : x.toInt = 0 → Rl d M_S_told 80 L S g I P) (k1 : x.toInt = 1 → Rl d M_S_told 85 L S g I P) (k2 : x.toInt = 2 → Rl d M_S_told 90 L S g I P) (k3 : x.toInt = 3 → Rl d M_S_told 95 L S g I P) (k4 : x.toInt = 4 → Rl d M_S_told 100 L S g I P) (k5 : x.toInt = 5 → Rl d M_S_told 105 L S g I P) (k6 : x.toInt = 6 → Rl d M_S_told 110 L S g I P) (k7 : x.toInt = 7 → Rl d M_S_told 119 L S g I P) (k8 : x.toInt = 8 → Rl d M_S_told 139 L S g I P) (k9 : x.toInt = 9 → Rl d M_S_told 148 L S g I P) (kd : (x.toInt < 0 ∨ 9 < x.toInt) → Rl d M_S_told 153 L S g I P) : Rl d M_S_told 25 L (.int x :: S) g I P := by
  by_cases h0 : x.toInt = 0
  · exact sw_in 0 k_S_told_25 (by rw [h0]; rfl) (by decide) rfl rfl (k0 h0)
  by_cases h1 : x.toInt = 1
  · exact sw_in 1 k_S_told_25 (by rw [h1]; rfl) (by decide) rfl rfl (k1 h1)
  by_cases h2 : x.toInt = 2
  · exact sw_in 2 k_S_told_25 (by rw [h2]; rfl) (by decide) rfl rfl (k2 h2)
  by_cases h3 : x.toInt = 3
  · exact sw_in 3 k_S_told_25 (by rw [h3]; rfl) (by decide) rfl rfl (k3 h3)
  by_cases h4 : x.toInt = 4
  · exact sw_in 4 k_S_told_25 (by rw [h4]; rfl) (by decide) rfl rfl (k4 h4)
  by_cases h5 : x.toInt = 5
  · exact sw_in 5 k_S_told_25 (by rw [h5]; rfl) (by decide) rfl rfl (k5 h5)
  by_cases h6 : x.toInt = 6
  · exact sw_in 6 k_S_told_25 (by rw [h6]; rfl) (by decide) rfl rfl (k6 h6)
  by_cases h7 : x.toInt = 7
  · exact sw_in 7 k_S_told_25 (by rw [h7]; rfl) (by decide) rfl rfl (k7 h7)
  by_cases h8 : x.toInt = 8
  · exact sw_in 8 k_S_told_25 (by rw [h8]; rfl) (by decide) rfl rfl (k8 h8)
  by_cases h9 : x.toInt = 9
  · exact sw_in 9 k_S_told_25 (by rw [h9]; rfl) (by decide) rfl rfl (k9 h9)
  exact T_tableOut k_S_told_25 (by omega) rfl (kd (by omega))
theorem swN_S_told_25 {a : Nat} (ha : a < 2147483648) (k0 : a = 0 → Rl d M_S_told 80 L S g I P) (k1 : a = 1 → Rl d M_S_told 85 L S g I P) (k2 : a = 2 → Rl d M_S_told 90 L S g I P) (k3 : a = 3 → Rl d M_S_told 95 L S g I P) (k4 : a = 4 → Rl d M_S_told 100 L S g I P) (k5 : a = 5 → Rl d M_S_told 105 L S g I P) (k6 : a = 6 → Rl d M_S_told 110 L S g I P) (k7 : a = 7 → Rl d M_S_told 119 L S g I P) (k8 : a = 8 → Rl d M_S_told 139 L S g I P) (k9 : a = 9 → Rl d M_S_told 148 L S g I P) (kd : (a < 0 ∨ 9 < a) → Rl d M_S_told 153 L S g I P) : Rl d M_S_told 25 L (.int (nI a) :: S) g I P := by
  have e := nI_toInt ha
  exact sw_S_told_25 (fun h => k0 (by omega)) (fun h => k1 (by omega)) (fun h => k2 (by omega)) (fun h => k3 (by omega)) (fun h => k4 (by omega)) (fun h => k5 (by omega)) (fun h => k6 (by omega)) (fun h => k7 (by omega)) (fun h => k8 (by omega)) (fun h => k9 (by omega)) (fun h => kd (by omega))
theorem sw_S_set_15 {x : Int32} (k0 : x.toInt = 3 → Rl d M_S_set 40 L S g I P) (k1 : x.toInt = 4 → Rl d M_S_set 54 L S g I P) (k2 : x.toInt = 5 → Rl d M_S_set 68 L S g I P) (kd : (x.toInt < 3 ∨ 5 < x.toInt) → Rl d M_S_set 82 L S g I P) : Rl d M_S_set 15 L (.int x :: S) g I P := by
  by_cases h0 : x.toInt = 3
  · exact sw_in 0 k_S_set_15 (by rw [h0]; rfl) (by decide) rfl rfl (k0 h0)
  by_cases h1 : x.toInt = 4
  · exact sw_in 1 k_S_set_15 (by rw [h1]; rfl) (by decide) rfl rfl (k1 h1)
  by_cases h2 : x.toInt = 5
  · exact sw_in 2 k_S_set_15 (by rw [h2]; rfl) (by decide) rfl rfl (k2 h2)
  exact T_tableOut k_S_set_15 (by omega) rfl (kd (by omega))
theorem swN_S_set_15 {a : Nat} (ha : a < 2147483648) (k0 : a = 3 → Rl d M_S_set 40 L S g I P) (k1 : a = 4 → Rl d M_S_set 54 L S g I P) (k2 : a = 5 → Rl d M_S_set 68 L S g I P) (kd : (a < 3 ∨ 5 < a) → Rl d M_S_set 82 L S g I P) : Rl d M_S_set 15 L (.int (nI a) :: S) g I P := by
  have e := nI_toInt ha
  exact sw_S_set_15 (fun h => k0 (by omega)) (fun h => k1 (by omega)) (fun h => k2 (by omega)) (fun h => kd (by omega))
theorem sw_S_latest_31 {x : Int32} (k0 : x.toInt = 0 → Rl d M_S_latest 56 L S g I P) (k1 : x.toInt = 1 → Rl d M_S_latest 61 L S g I P) (k2 : x.toInt = 2 → Rl d M_S_latest 66 L S g I P) (kd : (x.toInt < 0 ∨ 2 < x.toInt) → Rl d M_S_latest 71 L S g I P) : Rl d M_S_latest 31 L (.int x :: S) g I P := by
  by_cases h0 : x.toInt = 0
  · exact sw_in 0 k_S_latest_31 (by rw [h0]; rfl) (by decide) rfl rfl (k0 h0)
  by_cases h1 : x.toInt = 1
  · exact sw_in 1 k_S_latest_31 (by rw [h1]; rfl) (by decide) rfl rfl (k1 h1)
  by_cases h2 : x.toInt = 2
  · exact sw_in 2 k_S_latest_31 (by rw [h2]; rfl) (by decide) rfl rfl (k2 h2)
  exact T_tableOut k_S_latest_31 (by omega) rfl (kd (by omega))
theorem swN_S_latest_31 {a : Nat} (ha : a < 2147483648) (k0 : a = 0 → Rl d M_S_latest 56 L S g I P) (k1 : a = 1 → Rl d M_S_latest 61 L S g I P) (k2 : a = 2 → Rl d M_S_latest 66 L S g I P) (kd : (a < 0 ∨ 2 < a) → Rl d M_S_latest 71 L S g I P) : Rl d M_S_latest 31 L (.int (nI a) :: S) g I P := by
  have e := nI_toInt ha
  exact sw_S_latest_31 (fun h => k0 (by omega)) (fun h => k1 (by omega)) (fun h => k2 (by omega)) (fun h => kd (by omega))
theorem sw_S_textTold_17 {x : Int32} (k0 : x.toInt = 0 → Rl d M_S_textTold 44 L S g I P) (k1 : x.toInt = 1 → Rl d M_S_textTold 49 L S g I P) (kd : x.toInt ≠ 0 ∧ x.toInt ≠ 1 → Rl d M_S_textTold 54 L S g I P) : Rl d M_S_textTold 17 L (.int x :: S) g I P := by
  by_cases h0 : x.toInt = 0
  · exact T_lookup k_S_textTold_17 (by decide) (by rw [h0]) rfl (k0 h0)
  by_cases h1 : x.toInt = 1
  · exact T_lookup k_S_textTold_17 (by decide) (by rw [h1]) rfl (k1 h1)
  exact T_lookup (off := 37) k_S_textTold_17 (by decide) (by simp [Op.lookupswitch.offset, show ¬ (0 : Int) = x.toInt from fun q => h0 q.symm, show ¬ (1 : Int) = x.toInt from fun q => h1 q.symm]) rfl (kd ⟨h0, h1⟩)
theorem swN_S_textTold_17 {a : Nat} (ha : a < 2147483648) (k0 : a = 0 → Rl d M_S_textTold 44 L S g I P) (k1 : a = 1 → Rl d M_S_textTold 49 L S g I P) (kd : a ≠ 0 ∧ a ≠ 1 → Rl d M_S_textTold 54 L S g I P) : Rl d M_S_textTold 17 L (.int (nI a) :: S) g I P := by
  have e := nI_toInt ha
  exact sw_S_textTold_17 (fun h => k0 (by omega)) (fun h => k1 (by omega)) (fun h => kd (by omega))
theorem sw_S_count_1 {x : Int32} (k0 : x.toInt = 0 → Rl d M_S_count 60 L S g I P) (k1 : x.toInt = 1 → Rl d M_S_count 68 L S g I P) (k2 : x.toInt = 2 → Rl d M_S_count 76 L S g I P) (k3 : x.toInt = 3 → Rl d M_S_count 84 L S g I P) (k4 : x.toInt = 4 → Rl d M_S_count 92 L S g I P) (k5 : x.toInt = 5 → Rl d M_S_count 100 L S g I P) (k6 : x.toInt = 6 → Rl d M_S_count 108 L S g I P) (k7 : x.toInt = 7 → Rl d M_S_count 116 L S g I P) (k8 : x.toInt = 8 → Rl d M_S_count 124 L S g I P) (k9 : x.toInt = 9 → Rl d M_S_count 129 L S g I P) (k10 : x.toInt = 10 → Rl d M_S_count 140 L S g I P) (kd : (x.toInt < 0 ∨ 10 < x.toInt) → Rl d M_S_count 148 L S g I P) : Rl d M_S_count 1 L (.int x :: S) g I P := by
  by_cases h0 : x.toInt = 0
  · exact sw_in 0 k_S_count_1 (by rw [h0]; rfl) (by decide) rfl rfl (k0 h0)
  by_cases h1 : x.toInt = 1
  · exact sw_in 1 k_S_count_1 (by rw [h1]; rfl) (by decide) rfl rfl (k1 h1)
  by_cases h2 : x.toInt = 2
  · exact sw_in 2 k_S_count_1 (by rw [h2]; rfl) (by decide) rfl rfl (k2 h2)
  by_cases h3 : x.toInt = 3
  · exact sw_in 3 k_S_count_1 (by rw [h3]; rfl) (by decide) rfl rfl (k3 h3)
  by_cases h4 : x.toInt = 4
  · exact sw_in 4 k_S_count_1 (by rw [h4]; rfl) (by decide) rfl rfl (k4 h4)
  by_cases h5 : x.toInt = 5
  · exact sw_in 5 k_S_count_1 (by rw [h5]; rfl) (by decide) rfl rfl (k5 h5)
  by_cases h6 : x.toInt = 6
  · exact sw_in 6 k_S_count_1 (by rw [h6]; rfl) (by decide) rfl rfl (k6 h6)
  by_cases h7 : x.toInt = 7
  · exact sw_in 7 k_S_count_1 (by rw [h7]; rfl) (by decide) rfl rfl (k7 h7)
  by_cases h8 : x.toInt = 8
  · exact sw_in 8 k_S_count_1 (by rw [h8]; rfl) (by decide) rfl rfl (k8 h8)
  by_cases h9 : x.toInt = 9
  · exact sw_in 9 k_S_count_1 (by rw [h9]; rfl) (by decide) rfl rfl (k9 h9)
  by_cases h10 : x.toInt = 10
  · exact sw_in 10 k_S_count_1 (by rw [h10]; rfl) (by decide) rfl rfl (k10 h10)
  exact T_tableOut k_S_count_1 (by omega) rfl (kd (by omega))
theorem swN_S_count_1 {a : Nat} (ha : a < 2147483648) (k0 : a = 0 → Rl d M_S_count 60 L S g I P) (k1 : a = 1 → Rl d M_S_count 68 L S g I P) (k2 : a = 2 → Rl d M_S_count 76 L S g I P) (k3 : a = 3 → Rl d M_S_count 84 L S g I P) (k4 : a = 4 → Rl d M_S_count 92 L S g I P) (k5 : a = 5 → Rl d M_S_count 100 L S g I P) (k6 : a = 6 → Rl d M_S_count 108 L S g I P) (k7 : a = 7 → Rl d M_S_count 116 L S g I P) (k8 : a = 8 → Rl d M_S_count 124 L S g I P) (k9 : a = 9 → Rl d M_S_count 129 L S g I P) (k10 : a = 10 → Rl d M_S_count 140 L S g I P) (kd : (a < 0 ∨ 10 < a) → Rl d M_S_count 148 L S g I P) : Rl d M_S_count 1 L (.int (nI a) :: S) g I P := by
  have e := nI_toInt ha
  exact sw_S_count_1 (fun h => k0 (by omega)) (fun h => k1 (by omega)) (fun h => k2 (by omega)) (fun h => k3 (by omega)) (fun h => k4 (by omega)) (fun h => k5 (by omega)) (fun h => k6 (by omega)) (fun h => k7 (by omega)) (fun h => k8 (by omega)) (fun h => k9 (by omega)) (fun h => k10 (by omega)) (fun h => kd (by omega))
theorem sw_M_takes_25 {x : Int32} (k0 : x.toInt = 1 → Rl d M_M_takes 60 L S g I P) (k1 : x.toInt = 2 → Rl d M_M_takes 70 L S g I P) (k2 : x.toInt = 3 → Rl d M_M_takes 62 L S g I P) (k3 : x.toInt = 4 → Rl d M_M_takes 70 L S g I P) (k4 : x.toInt = 5 → Rl d M_M_takes 88 L S g I P) (kd : (x.toInt < 1 ∨ 5 < x.toInt) → Rl d M_M_takes 95 L S g I P) : Rl d M_M_takes 25 L (.int x :: S) g I P := by
  by_cases h0 : x.toInt = 1
  · exact sw_in 0 k_M_takes_25 (by rw [h0]; rfl) (by decide) rfl rfl (k0 h0)
  by_cases h1 : x.toInt = 2
  · exact sw_in 1 k_M_takes_25 (by rw [h1]; rfl) (by decide) rfl rfl (k1 h1)
  by_cases h2 : x.toInt = 3
  · exact sw_in 2 k_M_takes_25 (by rw [h2]; rfl) (by decide) rfl rfl (k2 h2)
  by_cases h3 : x.toInt = 4
  · exact sw_in 3 k_M_takes_25 (by rw [h3]; rfl) (by decide) rfl rfl (k3 h3)
  by_cases h4 : x.toInt = 5
  · exact sw_in 4 k_M_takes_25 (by rw [h4]; rfl) (by decide) rfl rfl (k4 h4)
  exact T_tableOut k_M_takes_25 (by omega) rfl (kd (by omega))
theorem swN_M_takes_25 {a : Nat} (ha : a < 2147483648) (k0 : a = 1 → Rl d M_M_takes 60 L S g I P) (k1 : a = 2 → Rl d M_M_takes 70 L S g I P) (k2 : a = 3 → Rl d M_M_takes 62 L S g I P) (k3 : a = 4 → Rl d M_M_takes 70 L S g I P) (k4 : a = 5 → Rl d M_M_takes 88 L S g I P) (kd : (a < 1 ∨ 5 < a) → Rl d M_M_takes 95 L S g I P) : Rl d M_M_takes 25 L (.int (nI a) :: S) g I P := by
  have e := nI_toInt ha
  exact sw_M_takes_25 (fun h => k0 (by omega)) (fun h => k1 (by omega)) (fun h => k2 (by omega)) (fun h => k3 (by omega)) (fun h => k4 (by omega)) (fun h => kd (by omega))
theorem sw_M_worth_1 {x : Int32} (k0 : x.toInt = 1 → Rl d M_M_worth 36 L S g I P) (k1 : x.toInt = 2 → Rl d M_M_worth 46 L S g I P) (k2 : x.toInt = 3 → Rl d M_M_worth 40 L S g I P) (k3 : x.toInt = 4 → Rl d M_M_worth 51 L S g I P) (k4 : x.toInt = 5 → Rl d M_M_worth 56 L S g I P) (kd : (x.toInt < 1 ∨ 5 < x.toInt) → Rl d M_M_worth 59 L S g I P) : Rl d M_M_worth 1 L (.int x :: S) g I P := by
  by_cases h0 : x.toInt = 1
  · exact sw_in 0 k_M_worth_1 (by rw [h0]; rfl) (by decide) rfl rfl (k0 h0)
  by_cases h1 : x.toInt = 2
  · exact sw_in 1 k_M_worth_1 (by rw [h1]; rfl) (by decide) rfl rfl (k1 h1)
  by_cases h2 : x.toInt = 3
  · exact sw_in 2 k_M_worth_1 (by rw [h2]; rfl) (by decide) rfl rfl (k2 h2)
  by_cases h3 : x.toInt = 4
  · exact sw_in 3 k_M_worth_1 (by rw [h3]; rfl) (by decide) rfl rfl (k3 h3)
  by_cases h4 : x.toInt = 5
  · exact sw_in 4 k_M_worth_1 (by rw [h4]; rfl) (by decide) rfl rfl (k4 h4)
  exact T_tableOut k_M_worth_1 (by omega) rfl (kd (by omega))
theorem swN_M_worth_1 {a : Nat} (ha : a < 2147483648) (k0 : a = 1 → Rl d M_M_worth 36 L S g I P) (k1 : a = 2 → Rl d M_M_worth 46 L S g I P) (k2 : a = 3 → Rl d M_M_worth 40 L S g I P) (k3 : a = 4 → Rl d M_M_worth 51 L S g I P) (k4 : a = 5 → Rl d M_M_worth 56 L S g I P) (kd : (a < 1 ∨ 5 < a) → Rl d M_M_worth 59 L S g I P) : Rl d M_M_worth 1 L (.int (nI a) :: S) g I P := by
  have e := nI_toInt ha
  exact sw_M_worth_1 (fun h => k0 (by omega)) (fun h => k1 (by omega)) (fun h => k2 (by omega)) (fun h => k3 (by omega)) (fun h => k4 (by omega)) (fun h => kd (by omega))
theorem sw_M_told_22 {x : Int32} (k0 : x.toInt = 6 → Rl d M_M_told 52 L S g I P) (k1 : x.toInt = 7 → Rl d M_M_told 58 L S g I P) (k2 : x.toInt = 8 → Rl d M_M_told 72 L S g I P) (k3 : x.toInt = 9 → Rl d M_M_told 78 L S g I P) (kd : (x.toInt < 6 ∨ 9 < x.toInt) → Rl d M_M_told 94 L S g I P) : Rl d M_M_told 22 L (.int x :: S) g I P := by
  by_cases h0 : x.toInt = 6
  · exact sw_in 0 k_M_told_22 (by rw [h0]; rfl) (by decide) rfl rfl (k0 h0)
  by_cases h1 : x.toInt = 7
  · exact sw_in 1 k_M_told_22 (by rw [h1]; rfl) (by decide) rfl rfl (k1 h1)
  by_cases h2 : x.toInt = 8
  · exact sw_in 2 k_M_told_22 (by rw [h2]; rfl) (by decide) rfl rfl (k2 h2)
  by_cases h3 : x.toInt = 9
  · exact sw_in 3 k_M_told_22 (by rw [h3]; rfl) (by decide) rfl rfl (k3 h3)
  exact T_tableOut k_M_told_22 (by omega) rfl (kd (by omega))
theorem swN_M_told_22 {a : Nat} (ha : a < 2147483648) (k0 : a = 6 → Rl d M_M_told 52 L S g I P) (k1 : a = 7 → Rl d M_M_told 58 L S g I P) (k2 : a = 8 → Rl d M_M_told 72 L S g I P) (k3 : a = 9 → Rl d M_M_told 78 L S g I P) (kd : (a < 6 ∨ 9 < a) → Rl d M_M_told 94 L S g I P) : Rl d M_M_told 22 L (.int (nI a) :: S) g I P := by
  have e := nI_toInt ha
  exact sw_M_told_22 (fun h => k0 (by omega)) (fun h => k1 (by omega)) (fun h => k2 (by omega)) (fun h => k3 (by omega)) (fun h => kd (by omega))
theorem sw_M_done_1 {x : Int32} (k0 : x.toInt = -27 → Rl d M_M_done 117 L S g I P) (k1 : x.toInt = -26 → Rl d M_M_done 113 L S g I P) (k2 : x.toInt = -25 → Rl d M_M_done 109 L S g I P) (k3 : x.toInt = -24 → Rl d M_M_done 98 L S g I P) (k4 : x.toInt = -23 → Rl d M_M_done 87 L S g I P) (k5 : x.toInt = -22 → Rl d M_M_done 76 L S g I P) (k6 : x.toInt = -21 → Rl d M_M_done 62 L S g I P) (k7 : x.toInt = -20 → Rl d M_M_done 48 L S g I P) (kd : (x.toInt < -27 ∨ -20 < x.toInt) → Rl d M_M_done 121 L S g I P) : Rl d M_M_done 1 L (.int x :: S) g I P := by
  by_cases h0 : x.toInt = -27
  · exact sw_in 0 k_M_done_1 (by rw [h0]; rfl) (by decide) rfl rfl (k0 h0)
  by_cases h1 : x.toInt = -26
  · exact sw_in 1 k_M_done_1 (by rw [h1]; rfl) (by decide) rfl rfl (k1 h1)
  by_cases h2 : x.toInt = -25
  · exact sw_in 2 k_M_done_1 (by rw [h2]; rfl) (by decide) rfl rfl (k2 h2)
  by_cases h3 : x.toInt = -24
  · exact sw_in 3 k_M_done_1 (by rw [h3]; rfl) (by decide) rfl rfl (k3 h3)
  by_cases h4 : x.toInt = -23
  · exact sw_in 4 k_M_done_1 (by rw [h4]; rfl) (by decide) rfl rfl (k4 h4)
  by_cases h5 : x.toInt = -22
  · exact sw_in 5 k_M_done_1 (by rw [h5]; rfl) (by decide) rfl rfl (k5 h5)
  by_cases h6 : x.toInt = -21
  · exact sw_in 6 k_M_done_1 (by rw [h6]; rfl) (by decide) rfl rfl (k6 h6)
  by_cases h7 : x.toInt = -20
  · exact sw_in 7 k_M_done_1 (by rw [h7]; rfl) (by decide) rfl rfl (k7 h7)
  exact T_tableOut k_M_done_1 (by omega) rfl (kd (by omega))
theorem sw_M_count_3 {x : Int32} (k0 : x.toInt = 0 → Rl d M_M_count 60 L S g I P) (k1 : x.toInt = 1 → Rl d M_M_count 67 L S g I P) (k2 : x.toInt = 2 → Rl d M_M_count 67 L S g I P) (k3 : x.toInt = 3 → Rl d M_M_count 67 L S g I P) (k4 : x.toInt = 4 → Rl d M_M_count 67 L S g I P) (k5 : x.toInt = 5 → Rl d M_M_count 74 L S g I P) (k6 : x.toInt = 6 → Rl d M_M_count 79 L S g I P) (k7 : x.toInt = 7 → Rl d M_M_count 118 L S g I P) (k8 : x.toInt = 8 → Rl d M_M_count 126 L S g I P) (k9 : x.toInt = 9 → Rl d M_M_count 131 L S g I P) (k10 : x.toInt = 10 → Rl d M_M_count 136 L S g I P) (kd : (x.toInt < 0 ∨ 10 < x.toInt) → Rl d M_M_count 143 L S g I P) : Rl d M_M_count 3 L (.int x :: S) g I P := by
  by_cases h0 : x.toInt = 0
  · exact sw_in 0 k_M_count_3 (by rw [h0]; rfl) (by decide) rfl rfl (k0 h0)
  by_cases h1 : x.toInt = 1
  · exact sw_in 1 k_M_count_3 (by rw [h1]; rfl) (by decide) rfl rfl (k1 h1)
  by_cases h2 : x.toInt = 2
  · exact sw_in 2 k_M_count_3 (by rw [h2]; rfl) (by decide) rfl rfl (k2 h2)
  by_cases h3 : x.toInt = 3
  · exact sw_in 3 k_M_count_3 (by rw [h3]; rfl) (by decide) rfl rfl (k3 h3)
  by_cases h4 : x.toInt = 4
  · exact sw_in 4 k_M_count_3 (by rw [h4]; rfl) (by decide) rfl rfl (k4 h4)
  by_cases h5 : x.toInt = 5
  · exact sw_in 5 k_M_count_3 (by rw [h5]; rfl) (by decide) rfl rfl (k5 h5)
  by_cases h6 : x.toInt = 6
  · exact sw_in 6 k_M_count_3 (by rw [h6]; rfl) (by decide) rfl rfl (k6 h6)
  by_cases h7 : x.toInt = 7
  · exact sw_in 7 k_M_count_3 (by rw [h7]; rfl) (by decide) rfl rfl (k7 h7)
  by_cases h8 : x.toInt = 8
  · exact sw_in 8 k_M_count_3 (by rw [h8]; rfl) (by decide) rfl rfl (k8 h8)
  by_cases h9 : x.toInt = 9
  · exact sw_in 9 k_M_count_3 (by rw [h9]; rfl) (by decide) rfl rfl (k9 h9)
  by_cases h10 : x.toInt = 10
  · exact sw_in 10 k_M_count_3 (by rw [h10]; rfl) (by decide) rfl rfl (k10 h10)
  exact T_tableOut k_M_count_3 (by omega) rfl (kd (by omega))
theorem swN_M_count_3 {a : Nat} (ha : a < 2147483648) (k0 : a = 0 → Rl d M_M_count 60 L S g I P) (k1 : a = 1 → Rl d M_M_count 67 L S g I P) (k2 : a = 2 → Rl d M_M_count 67 L S g I P) (k3 : a = 3 → Rl d M_M_count 67 L S g I P) (k4 : a = 4 → Rl d M_M_count 67 L S g I P) (k5 : a = 5 → Rl d M_M_count 74 L S g I P) (k6 : a = 6 → Rl d M_M_count 79 L S g I P) (k7 : a = 7 → Rl d M_M_count 118 L S g I P) (k8 : a = 8 → Rl d M_M_count 126 L S g I P) (k9 : a = 9 → Rl d M_M_count 131 L S g I P) (k10 : a = 10 → Rl d M_M_count 136 L S g I P) (kd : (a < 0 ∨ 10 < a) → Rl d M_M_count 143 L S g I P) : Rl d M_M_count 3 L (.int (nI a) :: S) g I P := by
  have e := nI_toInt ha
  exact sw_M_count_3 (fun h => k0 (by omega)) (fun h => k1 (by omega)) (fun h => k2 (by omega)) (fun h => k3 (by omega)) (fun h => k4 (by omega)) (fun h => k5 (by omega)) (fun h => k6 (by omega)) (fun h => k7 (by omega)) (fun h => k8 (by omega)) (fun h => k9 (by omega)) (fun h => k10 (by omega)) (fun h => kd (by omega))
theorem sw_L_law_33 {x : Int32} (k0 : x.toInt = 0 → Rl d M_L_law 212 L S g I P) (k1 : x.toInt = 1 → Rl d M_L_law 265 L S g I P) (k2 : x.toInt = 2 → Rl d M_L_law 298 L S g I P) (k3 : x.toInt = 3 → Rl d M_L_law 331 L S g I P) (k4 : x.toInt = 4 → Rl d M_L_law 364 L S g I P) (k5 : x.toInt = 5 → Rl d M_L_law 407 L S g I P) (k6 : x.toInt = 6 → Rl d M_L_law 440 L S g I P) (k7 : x.toInt = 7 → Rl d M_L_law 463 L S g I P) (k8 : x.toInt = 8 → Rl d M_L_law 486 L S g I P) (k9 : x.toInt = 9 → Rl d M_L_law 519 L S g I P) (k10 : x.toInt = 10 → Rl d M_L_law 542 L S g I P) (k11 : x.toInt = 11 → Rl d M_L_law 565 L S g I P) (k12 : x.toInt = 12 → Rl d M_L_law 578 L S g I P) (k13 : x.toInt = 13 → Rl d M_L_law 611 L S g I P) (k14 : x.toInt = 14 → Rl d M_L_law 644 L S g I P) (k15 : x.toInt = 15 → Rl d M_L_law 687 L S g I P) (k16 : x.toInt = 16 → Rl d M_L_law 720 L S g I P) (k17 : x.toInt = 17 → Rl d M_L_law 763 L S g I P) (k18 : x.toInt = 18 → Rl d M_L_law 796 L S g I P) (k19 : x.toInt = 19 → Rl d M_L_law 829 L S g I P) (k20 : x.toInt = 20 → Rl d M_L_law 872 L S g I P) (k21 : x.toInt = 21 → Rl d M_L_law 895 L S g I P) (k22 : x.toInt = 22 → Rl d M_L_law 908 L S g I P) (k23 : x.toInt = 23 → Rl d M_L_law 951 L S g I P) (k24 : x.toInt = 24 → Rl d M_L_law 974 L S g I P) (k25 : x.toInt = 25 → Rl d M_L_law 987 L S g I P) (k26 : x.toInt = 26 → Rl d M_L_law 1020 L S g I P) (k27 : x.toInt = 27 → Rl d M_L_law 1043 L S g I P) (k28 : x.toInt = 28 → Rl d M_L_law 1086 L S g I P) (k29 : x.toInt = 29 → Rl d M_L_law 1129 L S g I P) (k30 : x.toInt = 30 → Rl d M_L_law 1152 L S g I P) (k31 : x.toInt = 31 → Rl d M_L_law 1175 L S g I P) (k32 : x.toInt = 32 → Rl d M_L_law 1238 L S g I P) (k33 : x.toInt = 33 → Rl d M_L_law 1281 L S g I P) (k34 : x.toInt = 34 → Rl d M_L_law 1314 L S g I P) (k35 : x.toInt = 35 → Rl d M_L_law 1347 L S g I P) (k36 : x.toInt = 36 → Rl d M_L_law 1380 L S g I P) (k37 : x.toInt = 37 → Rl d M_L_law 1403 L S g I P) (k38 : x.toInt = 38 → Rl d M_L_law 1446 L S g I P) (k39 : x.toInt = 39 → Rl d M_L_law 1459 L S g I P) (k40 : x.toInt = 40 → Rl d M_L_law 1472 L S g I P) (kd : (x.toInt < 0 ∨ 40 < x.toInt) → Rl d M_L_law 1495 L S g I P) : Rl d M_L_law 33 L (.int x :: S) g I P := by
  by_cases h0 : x.toInt = 0
  · exact sw_in 0 k_L_law_33 (by rw [h0]; rfl) (by decide) rfl rfl (k0 h0)
  by_cases h1 : x.toInt = 1
  · exact sw_in 1 k_L_law_33 (by rw [h1]; rfl) (by decide) rfl rfl (k1 h1)
  by_cases h2 : x.toInt = 2
  · exact sw_in 2 k_L_law_33 (by rw [h2]; rfl) (by decide) rfl rfl (k2 h2)
  by_cases h3 : x.toInt = 3
  · exact sw_in 3 k_L_law_33 (by rw [h3]; rfl) (by decide) rfl rfl (k3 h3)
  by_cases h4 : x.toInt = 4
  · exact sw_in 4 k_L_law_33 (by rw [h4]; rfl) (by decide) rfl rfl (k4 h4)
  by_cases h5 : x.toInt = 5
  · exact sw_in 5 k_L_law_33 (by rw [h5]; rfl) (by decide) rfl rfl (k5 h5)
  by_cases h6 : x.toInt = 6
  · exact sw_in 6 k_L_law_33 (by rw [h6]; rfl) (by decide) rfl rfl (k6 h6)
  by_cases h7 : x.toInt = 7
  · exact sw_in 7 k_L_law_33 (by rw [h7]; rfl) (by decide) rfl rfl (k7 h7)
  by_cases h8 : x.toInt = 8
  · exact sw_in 8 k_L_law_33 (by rw [h8]; rfl) (by decide) rfl rfl (k8 h8)
  by_cases h9 : x.toInt = 9
  · exact sw_in 9 k_L_law_33 (by rw [h9]; rfl) (by decide) rfl rfl (k9 h9)
  by_cases h10 : x.toInt = 10
  · exact sw_in 10 k_L_law_33 (by rw [h10]; rfl) (by decide) rfl rfl (k10 h10)
  by_cases h11 : x.toInt = 11
  · exact sw_in 11 k_L_law_33 (by rw [h11]; rfl) (by decide) rfl rfl (k11 h11)
  by_cases h12 : x.toInt = 12
  · exact sw_in 12 k_L_law_33 (by rw [h12]; rfl) (by decide) rfl rfl (k12 h12)
  by_cases h13 : x.toInt = 13
  · exact sw_in 13 k_L_law_33 (by rw [h13]; rfl) (by decide) rfl rfl (k13 h13)
  by_cases h14 : x.toInt = 14
  · exact sw_in 14 k_L_law_33 (by rw [h14]; rfl) (by decide) rfl rfl (k14 h14)
  by_cases h15 : x.toInt = 15
  · exact sw_in 15 k_L_law_33 (by rw [h15]; rfl) (by decide) rfl rfl (k15 h15)
  by_cases h16 : x.toInt = 16
  · exact sw_in 16 k_L_law_33 (by rw [h16]; rfl) (by decide) rfl rfl (k16 h16)
  by_cases h17 : x.toInt = 17
  · exact sw_in 17 k_L_law_33 (by rw [h17]; rfl) (by decide) rfl rfl (k17 h17)
  by_cases h18 : x.toInt = 18
  · exact sw_in 18 k_L_law_33 (by rw [h18]; rfl) (by decide) rfl rfl (k18 h18)
  by_cases h19 : x.toInt = 19
  · exact sw_in 19 k_L_law_33 (by rw [h19]; rfl) (by decide) rfl rfl (k19 h19)
  by_cases h20 : x.toInt = 20
  · exact sw_in 20 k_L_law_33 (by rw [h20]; rfl) (by decide) rfl rfl (k20 h20)
  by_cases h21 : x.toInt = 21
  · exact sw_in 21 k_L_law_33 (by rw [h21]; rfl) (by decide) rfl rfl (k21 h21)
  by_cases h22 : x.toInt = 22
  · exact sw_in 22 k_L_law_33 (by rw [h22]; rfl) (by decide) rfl rfl (k22 h22)
  by_cases h23 : x.toInt = 23
  · exact sw_in 23 k_L_law_33 (by rw [h23]; rfl) (by decide) rfl rfl (k23 h23)
  by_cases h24 : x.toInt = 24
  · exact sw_in 24 k_L_law_33 (by rw [h24]; rfl) (by decide) rfl rfl (k24 h24)
  by_cases h25 : x.toInt = 25
  · exact sw_in 25 k_L_law_33 (by rw [h25]; rfl) (by decide) rfl rfl (k25 h25)
  by_cases h26 : x.toInt = 26
  · exact sw_in 26 k_L_law_33 (by rw [h26]; rfl) (by decide) rfl rfl (k26 h26)
  by_cases h27 : x.toInt = 27
  · exact sw_in 27 k_L_law_33 (by rw [h27]; rfl) (by decide) rfl rfl (k27 h27)
  by_cases h28 : x.toInt = 28
  · exact sw_in 28 k_L_law_33 (by rw [h28]; rfl) (by decide) rfl rfl (k28 h28)
  by_cases h29 : x.toInt = 29
  · exact sw_in 29 k_L_law_33 (by rw [h29]; rfl) (by decide) rfl rfl (k29 h29)
  by_cases h30 : x.toInt = 30
  · exact sw_in 30 k_L_law_33 (by rw [h30]; rfl) (by decide) rfl rfl (k30 h30)
  by_cases h31 : x.toInt = 31
  · exact sw_in 31 k_L_law_33 (by rw [h31]; rfl) (by decide) rfl rfl (k31 h31)
  by_cases h32 : x.toInt = 32
  · exact sw_in 32 k_L_law_33 (by rw [h32]; rfl) (by decide) rfl rfl (k32 h32)
  by_cases h33 : x.toInt = 33
  · exact sw_in 33 k_L_law_33 (by rw [h33]; rfl) (by decide) rfl rfl (k33 h33)
  by_cases h34 : x.toInt = 34
  · exact sw_in 34 k_L_law_33 (by rw [h34]; rfl) (by decide) rfl rfl (k34 h34)
  by_cases h35 : x.toInt = 35
  · exact sw_in 35 k_L_law_33 (by rw [h35]; rfl) (by decide) rfl rfl (k35 h35)
  by_cases h36 : x.toInt = 36
  · exact sw_in 36 k_L_law_33 (by rw [h36]; rfl) (by decide) rfl rfl (k36 h36)
  by_cases h37 : x.toInt = 37
  · exact sw_in 37 k_L_law_33 (by rw [h37]; rfl) (by decide) rfl rfl (k37 h37)
  by_cases h38 : x.toInt = 38
  · exact sw_in 38 k_L_law_33 (by rw [h38]; rfl) (by decide) rfl rfl (k38 h38)
  by_cases h39 : x.toInt = 39
  · exact sw_in 39 k_L_law_33 (by rw [h39]; rfl) (by decide) rfl rfl (k39 h39)
  by_cases h40 : x.toInt = 40
  · exact sw_in 40 k_L_law_33 (by rw [h40]; rfl) (by decide) rfl rfl (k40 h40)
  exact T_tableOut k_L_law_33 (by omega) rfl (kd (by omega))
theorem swN_L_law_33 {a : Nat} (ha : a < 2147483648) (k0 : a = 0 → Rl d M_L_law 212 L S g I P) (k1 : a = 1 → Rl d M_L_law 265 L S g I P) (k2 : a = 2 → Rl d M_L_law 298 L S g I P) (k3 : a = 3 → Rl d M_L_law 331 L S g I P) (k4 : a = 4 → Rl d M_L_law 364 L S g I P) (k5 : a = 5 → Rl d M_L_law 407 L S g I P) (k6 : a = 6 → Rl d M_L_law 440 L S g I P) (k7 : a = 7 → Rl d M_L_law 463 L S g I P) (k8 : a = 8 → Rl d M_L_law 486 L S g I P) (k9 : a = 9 → Rl d M_L_law 519 L S g I P) (k10 : a = 10 → Rl d M_L_law 542 L S g I P) (k11 : a = 11 → Rl d M_L_law 565 L S g I P) (k12 : a = 12 → Rl d M_L_law 578 L S g I P) (k13 : a = 13 → Rl d M_L_law 611 L S g I P) (k14 : a = 14 → Rl d M_L_law 644 L S g I P) (k15 : a = 15 → Rl d M_L_law 687 L S g I P) (k16 : a = 16 → Rl d M_L_law 720 L S g I P) (k17 : a = 17 → Rl d M_L_law 763 L S g I P) (k18 : a = 18 → Rl d M_L_law 796 L S g I P) (k19 : a = 19 → Rl d M_L_law 829 L S g I P) (k20 : a = 20 → Rl d M_L_law 872 L S g I P) (k21 : a = 21 → Rl d M_L_law 895 L S g I P) (k22 : a = 22 → Rl d M_L_law 908 L S g I P) (k23 : a = 23 → Rl d M_L_law 951 L S g I P) (k24 : a = 24 → Rl d M_L_law 974 L S g I P) (k25 : a = 25 → Rl d M_L_law 987 L S g I P) (k26 : a = 26 → Rl d M_L_law 1020 L S g I P) (k27 : a = 27 → Rl d M_L_law 1043 L S g I P) (k28 : a = 28 → Rl d M_L_law 1086 L S g I P) (k29 : a = 29 → Rl d M_L_law 1129 L S g I P) (k30 : a = 30 → Rl d M_L_law 1152 L S g I P) (k31 : a = 31 → Rl d M_L_law 1175 L S g I P) (k32 : a = 32 → Rl d M_L_law 1238 L S g I P) (k33 : a = 33 → Rl d M_L_law 1281 L S g I P) (k34 : a = 34 → Rl d M_L_law 1314 L S g I P) (k35 : a = 35 → Rl d M_L_law 1347 L S g I P) (k36 : a = 36 → Rl d M_L_law 1380 L S g I P) (k37 : a = 37 → Rl d M_L_law 1403 L S g I P) (k38 : a = 38 → Rl d M_L_law 1446 L S g I P) (k39 : a = 39 → Rl d M_L_law 1459 L S g I P) (k40 : a = 40 → Rl d M_L_law 1472 L S g I P) (kd : (a < 0 ∨ 40 < a) → Rl d M_L_law 1495 L S g I P) : Rl d M_L_law 33 L (.int (nI a) :: S) g I P := by
  have e := nI_toInt ha
  exact sw_L_law_33 (fun h => k0 (by omega)) (fun h => k1 (by omega)) (fun h => k2 (by omega)) (fun h => k3 (by omega)) (fun h => k4 (by omega)) (fun h => k5 (by omega)) (fun h => k6 (by omega)) (fun h => k7 (by omega)) (fun h => k8 (by omega)) (fun h => k9 (by omega)) (fun h => k10 (by omega)) (fun h => k11 (by omega)) (fun h => k12 (by omega)) (fun h => k13 (by omega)) (fun h => k14 (by omega)) (fun h => k15 (by omega)) (fun h => k16 (by omega)) (fun h => k17 (by omega)) (fun h => k18 (by omega)) (fun h => k19 (by omega)) (fun h => k20 (by omega)) (fun h => k21 (by omega)) (fun h => k22 (by omega)) (fun h => k23 (by omega)) (fun h => k24 (by omega)) (fun h => k25 (by omega)) (fun h => k26 (by omega)) (fun h => k27 (by omega)) (fun h => k28 (by omega)) (fun h => k29 (by omega)) (fun h => k30 (by omega)) (fun h => k31 (by omega)) (fun h => k32 (by omega)) (fun h => k33 (by omega)) (fun h => k34 (by omega)) (fun h => k35 (by omega)) (fun h => k36 (by omega)) (fun h => k37 (by omega)) (fun h => k38 (by omega)) (fun h => k39 (by omega)) (fun h => k40 (by omega)) (fun h => kd (by omega))
end SW
