theorem gw_of {w : Cond} (i : Nat) (h : lw_tbl[i]? = some w) (hg : goodWord w = true) : w ∈ GW := List.mem_filter.mpr ⟨List.mem_of_getElem? h, hg⟩
theorem nw_of {w : Cond} (i : Nat) (h : lw_tbl[i]? = some w) (hg : isNest w = true) : w ∈ NW := List.mem_filter.mpr ⟨List.mem_of_getElem? h, hg⟩

theorem gw_int : Cond.arrayClass (newarray.typeOf .int) ∈ GW := gw_of 135 (by decide +kernel) (by decide +kernel)
theorem gw_nat : Cond.native arraycopyName ∈ GW := gw_of 627 (by decide +kernel) (by decide +kernel)
theorem gw_acs : Cond.static arraycopyName ∈ GW := gw_of 626 (by decide +kernel) (by decide +kernel)
theorem gw_sys : Cond.initialized "java/lang/System" ∈ GW := gw_of 76 (by decide +kernel) (by decide +kernel)
theorem gw_oi : Cond.instanceMethod objectInit ∈ GW := gw_of 88 (by decide +kernel) (by decide +kernel)
theorem gw_oc : Cond.code objectInit ⟨#[0xb1]⟩ 1 none ∈ GW := gw_of 89 (by decide +kernel) (by decide +kernel)
theorem gw_mmaxs : Cond.static Lib.Math.max.name ∈ GW := gw_of 434 (by decide +kernel) (by decide +kernel)
theorem gw_mmaxc : Cond.code Lib.Math.max.name Lib.Math.max.code 2 (some .int) ∈ GW := gw_of 435 (by decide +kernel) (by decide +kernel)
theorem gw_mmins : Cond.static Lib.Math.min.name ∈ GW := gw_of 450 (by decide +kernel) (by decide +kernel)
theorem gw_mminc : Cond.code Lib.Math.min.name Lib.Math.min.code 2 (some .int) ∈ GW := gw_of 451 (by decide +kernel) (by decide +kernel)
theorem gw_mabss : Cond.static Lib.Math.abs.name ∈ GW := gw_of 687 (by decide +kernel) (by decide +kernel)
theorem gw_mabsc : Cond.code Lib.Math.abs.name Lib.Math.abs.code 1 (some .int) ∈ GW := gw_of 688 (by decide +kernel) (by decide +kernel)
theorem gw_math : Cond.initialized "java/lang/Math" ∈ GW := gw_of 73 (by decide +kernel) (by decide +kernel)
theorem clsW0 : ∀ w ∈ u_ws RX0 TX0 6, w ∈ GW := by decide +kernel
theorem clsV0 : ∀ k, k < 6 → defaultValue ((parseFieldDescriptor (TX0 k).2.2.1).getD .int) = (if rfF 0 k = true then Value.null else .int 0) := by decide +kernel
theorem clsT0 : ∀ k, k < 6 → parseFieldDescriptor (TX0 k).2.2.1 = some ((parseFieldDescriptor (TX0 k).2.2.1).getD .int) := by decide +kernel
theorem clsW1 : ∀ w ∈ u_ws RX1 TX1 11, w ∈ GW := by decide +kernel
theorem clsV1 : ∀ k, k < 11 → defaultValue ((parseFieldDescriptor (TX1 k).2.2.1).getD .int) = (if rfF 1 k = true then Value.null else .int 0) := by decide +kernel
theorem clsT1 : ∀ k, k < 11 → parseFieldDescriptor (TX1 k).2.2.1 = some ((parseFieldDescriptor (TX1 k).2.2.1).getD .int) := by decide +kernel
theorem clsW2 : ∀ w ∈ u_ws RX2 TX2 10, w ∈ GW := by decide +kernel
theorem clsV2 : ∀ k, k < 10 → defaultValue ((parseFieldDescriptor (TX2 k).2.2.1).getD .int) = (if rfF 2 k = true then Value.null else .int 0) := by decide +kernel
theorem clsT2 : ∀ k, k < 10 → parseFieldDescriptor (TX2 k).2.2.1 = some ((parseFieldDescriptor (TX2 k).2.2.1).getD .int) := by decide +kernel
theorem clsW3 : ∀ w ∈ u_ws RX3 TX3 3, w ∈ GW := by decide +kernel
theorem clsV3 : ∀ k, k < 3 → defaultValue ((parseFieldDescriptor (TX3 k).2.2.1).getD .int) = (if rfF 3 k = true then Value.null else .int 0) := by decide +kernel
theorem clsT3 : ∀ k, k < 3 → parseFieldDescriptor (TX3 k).2.2.1 = some ((parseFieldDescriptor (TX3 k).2.2.1).getD .int) := by decide +kernel
theorem clsW4 : ∀ w ∈ u_ws RX4 TX4 4, w ∈ GW := by decide +kernel
theorem clsV4 : ∀ k, k < 4 → defaultValue ((parseFieldDescriptor (TX4 k).2.2.1).getD .int) = (if rfF 4 k = true then Value.null else .int 0) := by decide +kernel
theorem clsT4 : ∀ k, k < 4 → parseFieldDescriptor (TX4 k).2.2.1 = some ((parseFieldDescriptor (TX4 k).2.2.1).getD .int) := by decide +kernel
theorem clsW5 : ∀ w ∈ u_ws RX5 TX5 2, w ∈ GW := by decide +kernel
theorem clsV5 : ∀ k, k < 2 → defaultValue ((parseFieldDescriptor (TX5 k).2.2.1).getD .int) = (if rfF 5 k = true then Value.null else .int 0) := by decide +kernel
theorem clsT5 : ∀ k, k < 2 → parseFieldDescriptor (TX5 k).2.2.1 = some ((parseFieldDescriptor (TX5 k).2.2.1).getD .int) := by decide +kernel
theorem clsW6 : ∀ w ∈ u_ws RX6 TX6 4, w ∈ GW := by decide +kernel
theorem clsV6 : ∀ k, k < 4 → defaultValue ((parseFieldDescriptor (TX6 k).2.2.1).getD .int) = (if rfF 6 k = true then Value.null else .int 0) := by decide +kernel
theorem clsT6 : ∀ k, k < 4 → parseFieldDescriptor (TX6 k).2.2.1 = some ((parseFieldDescriptor (TX6 k).2.2.1).getD .int) := by decide +kernel
theorem clsW7 : ∀ w ∈ u_ws RX7 TX7 6, w ∈ GW := by decide +kernel
theorem clsV7 : ∀ k, k < 6 → defaultValue ((parseFieldDescriptor (TX7 k).2.2.1).getD .int) = (if rfF 7 k = true then Value.null else .int 0) := by decide +kernel
theorem clsT7 : ∀ k, k < 6 → parseFieldDescriptor (TX7 k).2.2.1 = some ((parseFieldDescriptor (TX7 k).2.2.1).getD .int) := by decide +kernel
theorem clsW8 : ∀ w ∈ u_ws RX8 TX8 2, w ∈ GW := by decide +kernel
theorem clsV8 : ∀ k, k < 2 → defaultValue ((parseFieldDescriptor (TX8 k).2.2.1).getD .int) = (if rfF 8 k = true then Value.null else .int 0) := by decide +kernel
theorem clsT8 : ∀ k, k < 2 → parseFieldDescriptor (TX8 k).2.2.1 = some ((parseFieldDescriptor (TX8 k).2.2.1).getD .int) := by decide +kernel
theorem clsW9 : ∀ w ∈ u_ws RX9 TX9 11, w ∈ GW := by decide +kernel
theorem clsV9 : ∀ k, k < 11 → defaultValue ((parseFieldDescriptor (TX9 k).2.2.1).getD .int) = (if rfF 9 k = true then Value.null else .int 0) := by decide +kernel
theorem clsT9 : ∀ k, k < 11 → parseFieldDescriptor (TX9 k).2.2.1 = some ((parseFieldDescriptor (TX9 k).2.2.1).getD .int) := by decide +kernel
theorem clsW10 : ∀ w ∈ u_ws RX10 TX10 31, w ∈ GW := by decide +kernel
theorem clsV10 : ∀ k, k < 31 → defaultValue ((parseFieldDescriptor (TX10 k).2.2.1).getD .int) = (if rfF 10 k = true then Value.null else .int 0) := by decide +kernel
theorem clsT10 : ∀ k, k < 31 → parseFieldDescriptor (TX10 k).2.2.1 = some ((parseFieldDescriptor (TX10 k).2.2.1).getD .int) := by decide +kernel
theorem clsW {ci n : Nat} {C : String} {T : u_T} (hc : vwCl[ci]? = some (C, T, n)) : ∀ w ∈ u_ws C T n, w ∈ GW := by
  match ci, hc with
  | 0, hc => cases hc; exact clsW0
  | 1, hc => cases hc; exact clsW1
  | 2, hc => cases hc; exact clsW2
  | 3, hc => cases hc; exact clsW3
  | 4, hc => cases hc; exact clsW4
  | 5, hc => cases hc; exact clsW5
  | 6, hc => cases hc; exact clsW6
  | 7, hc => cases hc; exact clsW7
  | 8, hc => cases hc; exact clsW8
  | 9, hc => cases hc; exact clsW9
  | 10, hc => cases hc; exact clsW10
  | _ + 11, hc => cases hc
theorem clsV {ci n : Nat} {C : String} {T : u_T} (hc : vwCl[ci]? = some (C, T, n)) : ∀ k, k < n → defaultValue ((parseFieldDescriptor (T k).2.2.1).getD .int) = (if rfF ci k = true then Value.null else .int 0) := by
  match ci, hc with
  | 0, hc => cases hc; exact clsV0
  | 1, hc => cases hc; exact clsV1
  | 2, hc => cases hc; exact clsV2
  | 3, hc => cases hc; exact clsV3
  | 4, hc => cases hc; exact clsV4
  | 5, hc => cases hc; exact clsV5
  | 6, hc => cases hc; exact clsV6
  | 7, hc => cases hc; exact clsV7
  | 8, hc => cases hc; exact clsV8
  | 9, hc => cases hc; exact clsV9
  | 10, hc => cases hc; exact clsV10
  | _ + 11, hc => cases hc
theorem clsT {ci n : Nat} {C : String} {T : u_T} (hc : vwCl[ci]? = some (C, T, n)) : ∀ k, k < n → parseFieldDescriptor (T k).2.2.1 = some ((parseFieldDescriptor (T k).2.2.1).getD .int) := by
  match ci, hc with
  | 0, hc => cases hc; exact clsT0
  | 1, hc => cases hc; exact clsT1
  | 2, hc => cases hc; exact clsT2
  | 3, hc => cases hc; exact clsT3
  | 4, hc => cases hc; exact clsT4
  | 5, hc => cases hc; exact clsT5
  | 6, hc => cases hc; exact clsT6
  | 7, hc => cases hc; exact clsT7
  | 8, hc => cases hc; exact clsT8
  | 9, hc => cases hc; exact clsT9
  | 10, hc => cases hc; exact clsT10
  | _ + 11, hc => cases hc
theorem clsD {ci n : Nat} {C : String} {T : u_T} (hc : vwCl[ci]? = some (C, T, n)) : ∀ a, a < n → ∀ b, b < n → a ≠ b → (T a).2.1 ≠ (T b).2.1 := by
  match ci, hc with
  | 0, hc => cases hc; exact nmX0
  | 1, hc => cases hc; exact nmX1
  | 2, hc => cases hc; exact nmX2
  | 3, hc => cases hc; exact nmX3
  | 4, hc => cases hc; exact nmX4
  | 5, hc => cases hc; exact nmX5
  | 6, hc => cases hc; exact nmX6
  | 7, hc => cases hc; exact nmX7
  | 8, hc => cases hc; exact nmX8
  | 9, hc => cases hc; exact nmX9
  | 10, hc => cases hc; exact nmX10
  | _ + 11, hc => cases hc
