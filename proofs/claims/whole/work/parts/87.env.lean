/-! The law's start: what the Statement gives of it is what the small machine takes. -/
section ENV
def ev_L : List Cond := flatC (Jvm.Cond.and given_1 narrow_1)
def ev_x : List Nat := [69, 75, 77, 136, 138, 140, 102, 107, 124, 126, 128, 130, 132, 134]
def ev_t (j : Nat) : Term := .string "ShortCut$Reader" (ev_x.getD j 0)
theorem ev_ex : ∀ i, i < 14 → Cond.exactly (ev_t i) "java/lang/String" ∈ ev_L := by decide +kernel
theorem ev_co : ∀ i, i < 14 → Cond.eq (.field (ev_t i) "java/lang/String" "coder" "B") (.int 0) ∈ ev_L := by decide +kernel
theorem ev_ar : ∀ i, i < 14 → Cond.arrayOf (.field (ev_t i) "java/lang/String" "value" "[B") .byte ∈ ev_L := by decide +kernel
theorem ev_le : ∀ i, i < 14 → Cond.eq (.length (.field (ev_t i) "java/lang/String" "value" "[B")) (.int (Int32.ofNat (strs.getD i []).length)) ∈ ev_L := by decide +kernel
theorem ev_el : ∀ i, i < 14 → ∀ j, j < (strs.getD i []).length → Cond.eq (.elem (.field (ev_t i) "java/lang/String" "value" "[B") (.int (Int32.ofNat j))) (.int ((strs.getD i []).getD j 0)) ∈ ev_L := by decide +kernel
theorem ev_ln : ∀ i, i < 14 → (strs.getD i []).length < 2 ^ 31 := by decide +kernel
theorem ev_cs : Cond.eq (.static "java/lang/String" "COMPACT_STRINGS" "Z") (.int 1) ∈ ev_L := by decide +kernel
theorem ev_sf : Cond.isRef (.static "jdk/internal/util/Preconditions" "SIOOBE_FORMATTER" "Ljava/util/function/BiFunction;") ∈ ev_L := by decide +kernel
theorem ev_aa : Cond.arrayOf (.static "ShortCut" "ABOVE" "[I") .int ∈ ev_L := by decide +kernel
theorem ev_al : Cond.eq (.length (.static "ShortCut" "ABOVE" "[I")) (.int (Int32.ofNat 6)) ∈ ev_L := by decide +kernel
theorem ev_ae : ∀ j, j < 6 → Cond.eq (.elem (.static "ShortCut" "ABOVE" "[I") (.int (Int32.ofNat j))) (.int (aboveL.getD j 0)) ∈ ev_L := by decide +kernel
theorem ev_sw : ∀ q ∈ strW, q.2.2.2 < 14 ∧ ((q.1 = "ShortCut$Reader" ∧ q.2.1 = ev_x.getD q.2.2.2 0) ∨ Cond.eq (ev_t q.2.2.2) (.string q.1 q.2.1) ∈ ev_L) := by decide +kernel
theorem ev_sr : ∀ q ∈ strW, Cond.stringRef q.1 q.2.1 q.2.2.1 ∈ lw_tbl := by decide +kernel
theorem ev_ao : ∀ z ∈ elN, Cond.arrayOver (.object z) ∈ lw_tbl := by decide +kernel
theorem ev_in : ∀ q ∈ vwCl, Cond.instantiable q.1 q.2.2 ∈ GW := by decide +kernel
theorem ev_z1 : Cond.laysStatic "java/lang/String" "COMPACT_STRINGS" "Z" ∈ lw_tbl := by decide +kernel
theorem ev_z2 : Cond.laysStatic "jdk/internal/util/Preconditions" "SIOOBE_FORMATTER" "Ljava/util/function/BiFunction;" ∈ lw_tbl := by decide +kernel
theorem ev_z3 : Cond.laysStatic "ShortCut" "ABOVE" "[I" ∈ lw_tbl := by decide +kernel
theorem ev_i1 : Cond.initialized "java/lang/String" ∈ lw_tbl := by decide +kernel
theorem ev_i2 : Cond.initialized "jdk/internal/util/Preconditions" ∈ lw_tbl := by decide +kernel
theorem ev_i3 : Cond.initialized "ShortCut" ∈ lw_tbl := by decide +kernel
section ENV2
variable {s : State} {b : Nat}
/-- string i stands somewhere, and its bytes -/
theorem ev_str (hf : ∀ c ∈ ev_L, c.before #[Value.ref b] s = true) (hA : ∀ a : Nat, a < s.heap.size → ¬ Af s.heap.size a) : ∀ i : Nat, ∃ q : Nat × Nat, i < 14 → (ev_t i).eval #[Value.ref b] s none [] s = some (.ref q.1) ∧ va_O "java/lang/String" q.1 (Af s.heap.size) s s.heap ∧ va_OF "java/lang/String" "coder" "B" (.int 0) q.1 (Af s.heap.size) s s.heap ∧ va_OF "java/lang/String" "value" "[B" (.ref q.2) q.1 (Af s.heap.size) s s.heap ∧ va_T .byte q.2 (strs.getD i []).length (fun k => .int ((strs.getD i []).getD k 0)) (Af s.heap.size) s s.heap := by
  intro i
  by_cases hi : i < 14
  · obtain ⟨adK, adV, hS, hE⟩ := vk_Sof (args := #[Value.ref b]) (s := s) (N := 1) (tm := fun _ => ev_t i) (len := [(strs.getD i []).length]) (byt := [strs.getD i []]) (A := Af s.heap.size) (fun j hj => by
        obtain rfl : j = 0 := by omega
        exact ev_ln i hi) (fun _ _ => hf _ (ev_ex i hi)) (fun _ _ => hf _ (ev_co i hi)) (fun _ _ => hf _ (ev_ar i hi)) (fun j hj => by
        obtain rfl : j = 0 := by omega
        exact hf _ (ev_le i hi)) (fun j hj k hk => by
        obtain rfl : j = 0 := by omega
        exact hf _ (ev_el i hi k hk)) (fun j k hj hk hn => absurd (show j = k by omega) hn) hA
    have h0 := hS.1 0 (by omega)
    exact ⟨(adK 0, adV 0), fun _ => ⟨hE 0 (by omega), h0.1, h0.2.1, h0.2.2.1, h0.2.2.2⟩⟩
  · exact ⟨(0, 0), fun h => absurd h hi⟩
theorem ev_cls (hg : ∀ w ∈ GW, w.before #[Value.ref b] s = true) : ∀ ci : Nat, ∃ q : ClassId × (Nat → Nat), ∀ r : vw_C, vwCl[ci]? = some r → u_Kn s r.1 r.2.1 r.2.2 q.1 q.2 := by
  intro ci
  cases h : vwCl[ci]? with
  | none => exact ⟨(0, fun _ => 0), fun r hr => by cases hr⟩
  | some r =>
    obtain ⟨C, T, n⟩ := r
    obtain ⟨c, k, hk⟩ := u_known (ws := GW) (args := #[Value.ref b]) (C := C) (T := T) (N := n) (n := n) hg (clsW h) (hg _ (ev_in (C, T, n) (List.mem_of_getElem? h)))
    exact ⟨(c, k), fun r hr => by cases hr; exact hk⟩
theorem ev_aof {z : String} (h : va_AO z s) : ∃ c : ClassId, ArrOfT s c (.object z) ∧ va_RA s c (.object z) := by
  obtain ⟨comp, c, kk, h1, h2, h3, h4, h5⟩ := Cond.arrayOver_spec h
  exact ⟨c, fun n y => ⟨fun k h => (by cases h), kk, h3, comp, h4⟩, kk, comp, h3, h4, h1, h5⟩
theorem ev_aint (hg : ∀ w ∈ GW, w.before #[Value.ref b] s = true) : ∃ c : ClassId, ArrOfT s c .int ∧ va_RA s c .int := by
  obtain ⟨c, kk, comp, h1, h2, h3⟩ := Cond.arrayClass_spec (hg _ gw_int)
  exact ⟨c, fun n y => ⟨fun k h => (by cases h), kk, h2, comp, h3⟩, h1⟩
def ev_at (base : Nat) (ad : Nat → Nat × Nat) (tA b tF i : Nat) : Nat := if i < 1000000 then base + i else if i < 1000100 then (ad (i - 1000000)).1 else if i < 1000200 then (ad (i - 1000100)).2 else if i < 1000300 then tA else if i < 1000400 then b else tF
theorem ev_at1 {base tA b tF j : Nat} {ad : Nat → Nat × Nat} (hj : j < 14) : ev_at base ad tA b tF (1000000 + j) = (ad j).1 := by
  unfold ev_at
  rw [if_neg (by omega), if_pos (by omega), Nat.add_sub_cancel_left]
theorem ev_at2 {base tA b tF j : Nat} {ad : Nat → Nat × Nat} (hj : j < 14) : ev_at base ad tA b tF (1000100 + j) = (ad j).2 := by
  unfold ev_at
  rw [if_neg (by omega), if_neg (by omega), if_pos (by omega), Nat.add_sub_cancel_left]
theorem ev_at3 {base tA b tF : Nat} {ad : Nat → Nat × Nat} : ev_at base ad tA b tF 1000200 = tA := by
  unfold ev_at
  rw [if_neg (by omega), if_neg (by omega), if_neg (by omega), if_pos (by omega)]
theorem ev_at4 {base tA b tF : Nat} {ad : Nat → Nat × Nat} : ev_at base ad tA b tF 1000300 = b := by
  unfold ev_at
  rw [if_neg (by omega), if_neg (by omega), if_neg (by omega), if_neg (by omega), if_pos (by omega)]
theorem ev_at5 {base tA b tF : Nat} {ad : Nat → Nat × Nat} : ev_at base ad tA b tF 1000400 = tF := by
  unfold ev_at
  rw [if_neg (by omega), if_neg (by omega), if_neg (by omega), if_neg (by omega), if_neg (by omega)]
theorem EnvOK_0 {L : Nat} {xs : Nat → Int32} (hts : ∀ w ∈ lw_tbl, w.before #[Value.ref b] s = true) (hgv : (Jvm.Cond.and given_1 narrow_1).before #[Value.ref b] s = true) (hX : va_X b L xs s s.heap) (hbl : b < s.heap.size) : ∃ (adr : Nat → Nat) (cA : Nat → ClassId) (D : va_G) (vF : Value), vF.category = 1 ∧ adr 1000300 = b ∧ (∀ i, i < 1000000 → adr i = s.heap.size + i) ∧ EnvOK s.heap.size adr cA D (xs, L, vF) s := by
  have hf : ∀ c ∈ ev_L, c.before #[Value.ref b] s = true := flat_of_before _ hgv
  have hA : ∀ a : Nat, a < s.heap.size → ¬ Af s.heap.size a := fun a ha => Nat.not_le.mpr ha
  have hg : ∀ w ∈ GW, w.before #[Value.ref b] s = true := fun w hw => hts w (List.mem_filter.mp hw).1
  have hAO : ∀ z ∈ elN, va_AO z s := fun z hz => va_AO.of (hts _ (ev_ao z hz))
  obtain ⟨ad, had⟩ := Classical.axiomOfChoice (ev_str hf hA)
  obtain ⟨fD, hD⟩ := Classical.axiomOfChoice (ev_cls hg)
  obtain ⟨a0, x0⟩ := ev_aint hg
  obtain ⟨a1, x1⟩ := ev_aof (hAO "ShortCut$Bit" (by decide +kernel))
  obtain ⟨a2, x2⟩ := ev_aof (hAO "ShortCut$Text" (by decide +kernel))
  obtain ⟨a3, x3⟩ := ev_aof (hAO "ShortCut$Sheet" (by decide +kernel))
  obtain ⟨a4, x4⟩ := ev_aof (hAO "ShortCut$Slot" (by decide +kernel))
  obtain ⟨a5, x5⟩ := ev_aof (hAO "java/lang/String" (by decide +kernel))
  obtain ⟨tA, hA1, hA2⟩ := va_Tof (args := #[Value.ref b]) (s := s) (tm := .static "ShortCut" "ABOVE" "[I") (ty := .int) (N := 6) (f := fun k => .int (aboveL.getD k 0)) (A := Af s.heap.size) (by decide) (hf _ ev_aa) (va_eqt (hf _ ev_al)) (fun j hj => va_eqt (hf _ (ev_ae j hj))) hA
  have hZ3 := va_Zof (A := Af s.heap.size) (hts _ ev_z3) (hts _ ev_i3) hA1 hA
  have hZ1 := va_Zof (A := Af s.heap.size) (hts _ ev_z1) (hts _ ev_i1) (va_eqt (hf _ ev_cs)) hA
  obtain ⟨vF, tF, hc, hZ2⟩ : ∃ (vF : Value) (tF : Nat), vF.category = 1 ∧ ∀ adr : Nat → Nat, adr 1000400 = tF → va_Z "jdk/internal/util/Preconditions" "SIOOBE_FORMATTER" "Ljava/util/function/BiFunction;" (upV adr vF) (Af s.heap.size) s s.heap := by
    obtain h | ⟨t, h⟩ := va_Zqof (A := Af s.heap.size) (hts _ ev_z2) (hts _ ev_i2) (hf _ ev_sf) hA
    · exact ⟨.null, 0, rfl, fun adr _ => h⟩
    · refine ⟨.ref 1000400, t, rfl, fun adr e => ?_⟩
      show va_Z _ _ _ (Value.ref (adr 1000400)) _ _ _
      rw [e]
      exact h
  obtain ⟨adr, e0, e1, e2, e3, e4, e5⟩ : ∃ adr : Nat → Nat, (∀ i, i < 1000000 → adr i = s.heap.size + i) ∧ (∀ j, j < 14 → adr (1000000 + j) = (ad j).1) ∧ (∀ j, j < 14 → adr (1000100 + j) = (ad j).2) ∧ adr 1000200 = tA ∧ adr 1000300 = b ∧ adr 1000400 = tF := ⟨ev_at s.heap.size ad tA b tF, fun i hi => if_pos hi, fun j hj => ev_at1 hj, fun j hj => ev_at2 hj, ev_at3, ev_at4, ev_at5⟩
  refine ⟨adr, fun k => [a0, a1, a2, a3, a4, a5].getD k 0, (fun c => (fD c).1, fun c => (fD c).2), vF, hc, e4, e0, ⟨fun c q hq => hD c q hq, fun k q hq => ?_⟩, fun w hw => va_Nw.of (nest_on (NW_nest hw)) (hts w (List.mem_filter.mp hw).1), hAO, fun q hq => ?_, fun j hj => ?_, hZ1, hZ2 adr e5, ?_, ?_, ?_, ?_, ?_⟩
  · match k, hq with
    | 0, hq => cases hq; exact x0
    | 1, hq => cases hq; exact x1
    | 2, hq => cases hq; exact x2
    | 3, hq => cases hq; exact x3
    | 4, hq => cases hq; exact x4
    | 5, hq => cases hq; exact x5
    | _ + 6, hq => cases hq
  · obtain ⟨hj, h⟩ := ev_sw q hq
    rw [e1 _ hj]
    refine vk_R.of (A := #[Value.ref b]) (hts _ (ev_sr q hq)) ?_
    obtain ⟨h1, h2⟩ | h := h
    · rw [h1, h2]
      exact (had _ hj).1
    · exact va_eqR (hf _ h) (had _ hj).1
  · rw [e1 j hj, e2 j hj]
    exact (had j hj).2
  · rw [e3]; exact hZ3
  · rw [e3]; exact hA2
  · rw [e4]; exact hX
  · rw [e4]; exact hbl
  · rw [e4]; exact hbl
end ENV2
end ENV
