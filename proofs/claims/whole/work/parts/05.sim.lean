/-! THE JVM DOES WHAT THE SMALL MACHINE DOES. -/
def upV (adr : Nat → Nat) (v : Value) : Value := match v with
  | .ref i => .ref (adr i)
  | .int x => .int x
  | .long x => .long x
  | .float x => .float x
  | .double x => .double x
  | .null => .null
  | .retAddr x => .retAddr x
theorem up_cat {adr : Nat → Nat} {v : Value} : (upV adr v).category = v.category := by cases v <;> rfl
def lvOf (adr : Nat → Nat) (L : Lcl) : List (Nat × Value) := (List.range L.length).filterMap (fun i => (L[i]?.join).map (fun v => (i, upV adr v)))
def LR (adr : Nat → Nat) (L : Lcl) (ls : Array Slot) (nL : Nat) : Prop := L.length = nL ∧ ls.size = nL ∧ lv_wf ls ∧ ∀ (i : Nat) (v : Value), L[i]? = some (some v) → ls[i]? = some (.val (upV adr v)) ∧ v.category = 1
theorem lvOf_mem {adr : Nat → Nat} {L : Lcl} {q : Nat × Value} : q ∈ lvOf adr L ↔ ∃ v, L[q.1]? = some (some v) ∧ q.2 = upV adr v := by
  unfold lvOf
  rw [List.mem_filterMap]
  constructor
  · rintro ⟨i, hi, h⟩
    cases hv : L[i]? with
    | none => rw [hv] at h; simp at h
    | some o =>
      cases o with
      | none => rw [hv] at h; simp at h
      | some v =>
        rw [hv] at h
        simp at h
        subst h
        exact ⟨v, hv, rfl⟩
  · rintro ⟨v, hv, e⟩
    refine ⟨q.1, List.mem_range.mpr (List.getElem?_eq_some_iff.mp hv).1, ?_⟩
    rw [hv]
    simp [← e]
theorem lr_has {adr : Nat → Nat} {L : Lcl} {ls : Array Slot} {nL : Nat} (h : LR adr L ls nL) : lv_has ls nL (lvOf adr L) := by
  refine ⟨h.2.1, h.2.2.1, fun q hq => ?_⟩
  obtain ⟨v, hv, e⟩ := lvOf_mem.mp hq
  rw [e]
  exact (h.2.2.2 _ _ hv).1
theorem lr_mem {adr : Nat → Nat} {L : Lcl} {ls : Array Slot} {nL : Nat} {i : Nat} {x : Int32} (_ : LR adr L ls nL) (hl : L[i]? = some (some (.int x))) : (i, Value.int x) ∈ lvOf adr L := lvOf_mem.mpr ⟨.int x, hl, rfl⟩
theorem lr_set {adr : Nat → Nat} {L : Lcl} {ls ls1 : Array Slot} {nL i : Nat} {v : Value} (h : LR adr L ls nL) (hi : i < L.length) (hc : v.category = 1) (h1 : lv_has ls1 nL ((i, upV adr v) :: (lvOf adr L).filter (fun q => !(q.1 == i) && !(q.1 + 1 == i && q.2.category == 2)))) : LR adr (L.set i (some v)) ls1 nL := by
  refine ⟨by rw [List.length_set]; exact h.1, h1.1, h1.2.1, fun j w hj => ?_⟩
  by_cases hji : j = i
  · subst hji
    rw [List.getElem?_set_self hi] at hj
    cases hj
    exact ⟨h1.2.2 _ List.mem_cons_self, hc⟩
  · rw [List.getElem?_set_ne (Ne.symm hji)] at hj
    have hw := (h.2.2.2 j w hj).2
    refine ⟨h1.2.2 (j, upV adr w) (List.mem_cons_of_mem _ (List.mem_filter.mpr ⟨lvOf_mem.mpr ⟨w, hj, rfl⟩, ?_⟩)), hw⟩
    have : (upV adr w).category = 1 := by rw [up_cat]; exact hw
    simp [hji, this]
def Af (base : Nat) : Nat → Prop := fun q => base ≤ q
def mE (adr : Nat → Nat) (cA : Nat → ClassId) (h : MH) (i : Nat) : va_E := if (hk h i).1 < 100 then .inr ((hk h i).1, (List.range (hk h i).2).map (fun k => if rfF (hk h i).1 k = true then va_rf ((hR h i k).map adr) else .int (hI h i k))) else if (hk h i).1 = 100 then .inl (cA 0, (hk h i).2, .inl (hI h i)) else .inl (cA ((hk h i).1 - 100), (hk h i).2, .inr (.inr (.inr (.inr (fun k => (hR h i k).map adr)))))
def wL (base sz : Nat) : List Nat := (List.range sz).map (base + ·)
def wld (base : Nat) (adr : Nat → Nat) (cA : Nat → ClassId) (h : MH) : va_W := va_pl (wL base (hz h)) (fun a => mE adr cA h (a - base))
def HL (base : Nat) (adr : Nat → Nat) (cA : Nat → ClassId) (D : va_G) (h : MH) (H : Heap) : Prop := va_P D vwCl (wld base adr cA h) H ∧ hz h ≤ 1000000
def tysOf (cA : Nat → ClassId) : List (ClassId × FieldType) := [(cA 0, .int), (cA 1, .object "ShortCut$Bit"), (cA 2, .object "ShortCut$Text"), (cA 3, .object "ShortCut$Sheet"), (cA 4, .object "ShortCut$Slot"), (cA 5, .object "java/lang/String")]
theorem tysOf_el (cA : Nat → ClassId) {e : Nat} {Cn : String} (h : elN[e]? = some Cn) : (tysOf cA)[1 + e]? = some (cA (1 + e), .object Cn) := by
  match e, h with
  | 0, h => cases h; rfl
  | 1, h => cases h; rfl
  | 2, h => cases h; rfl
  | 3, h => cases h; rfl
  | 4, h => cases h; rfl
  | _ + 5, h => cases h
theorem wL_mem {base sz i : Nat} (h : i < sz) : base + i ∈ wL base sz := List.mem_map.mpr ⟨i, List.mem_range.mpr h, rfl⟩
theorem wld_get {base : Nat} {adr : Nat → Nat} {cA : Nat → ClassId} {h : MH} {i : Nat} (hi : i < hz h) : ∃ k : Nat, (wld base adr cA h)[k]? = some (base + i, mE adr cA h i) := by
  obtain ⟨k, hk⟩ := va_pl_get (X := []) (f := fun a => mE adr cA h (a - base)) (wL_mem (base := base) hi)
  refine ⟨k, ?_⟩
  rw [List.nil_append] at hk
  rw [show base + i - base = i by omega] at hk
  exact hk
theorem wld_key {base : Nat} {adr : Nat → Nat} {cA : Nat → ClassId} (g : MH) (j : Nat) : (wld base adr cA g)[j]? = if j < hz g then some (base + j, mE adr cA g j) else none := by
  unfold wld va_pl wL
  rw [List.getElem?_map, List.getElem?_map]
  by_cases hl : j < hz g
  · rw [List.getElem?_range hl, if_pos hl]
    simp
  · rw [List.getElem?_eq_none (by rw [List.length_range]; omega), if_neg hl]
    rfl
theorem wld_at {base : Nat} {adr : Nat → Nat} {cA : Nat → ClassId} {h : MH} {k : Nat} {q : Nat × va_E} (hk : (wld base adr cA h)[k]? = some q) : k < hz h ∧ q = (base + k, mE adr cA h k) := by
  rw [wld_key] at hk
  by_cases hl : k < hz h
  · rw [if_pos hl] at hk
    exact ⟨hl, (Option.some.inj hk).symm⟩
  · rw [if_neg hl] at hk
    cases hk
theorem wld_D {base : Nat} {adr : Nat → Nat} {cA : Nat → ClassId} {h : MH} : va_D (Af base) (wld base adr cA h) := by
  refine ⟨fun i j p q hi hj e => ?_, fun k q hk => ?_⟩
  · have h1 := (wld_at hi).2
    have h2 := (wld_at hj).2
    subst h1; subst h2
    simp at e
    exact e
  · have h1 := (wld_at hk).2
    subst h1
    exact Nat.le_add_right _ _
theorem wld_set {base : Nat} {adr : Nat → Nat} {cA : Nat → ClassId} {h h1 : MH} {i k : Nat} {e : va_E} (hi : i < hz h) (hk : (wld base adr cA h)[k]? = some (base + i, mE adr cA h i)) (hz1 : hz h1 = hz h) (he : mE adr cA h1 i = e) (ho : ∀ j, j ≠ i → mE adr cA h1 j = mE adr cA h j) : (wld base adr cA h).set k (base + i, e) = wld base adr cA h1 := by
  have hki : k = i := by
    have := (wld_at hk).2
    simp at this
    exact this.1.symm
  subst hki
  apply List.ext_getElem?
  intro j
  by_cases hj : j = k
  · subst hj
    rw [List.getElem?_set_self (List.getElem?_eq_some_iff.mp hk).1, wld_key, if_pos (by rw [hz1]; exact hi), he]
  · rw [List.getElem?_set_ne (Ne.symm hj), wld_key, wld_key, hz1]
    by_cases hl : j < hz h
    · rw [if_pos hl, if_pos hl, ho j hj]
    · rw [if_neg hl, if_neg hl]
theorem mE_alloc_ne {adr : Nat → Nat} {cA : Nat → ClassId} {h : MH} {t n j : Nat} (hj : j ≠ hz h) : mE adr cA (alloc h t n) j = mE adr cA h j := by
  unfold mE alloc
  simp only [hk, hR, hI, va_up_ne _ _ hj]
theorem wld_len {base : Nat} {adr : Nat → Nat} {cA : Nat → ClassId} {h : MH} : (wld base adr cA h).length = hz h := by
  unfold wld va_pl wL
  simp
theorem wld_push {base : Nat} {adr : Nat → Nat} {cA : Nat → ClassId} {h : MH} {t n : Nat} : wld base adr cA h ++ [(base + hz h, mE adr cA (alloc h t n) (hz h))] = wld base adr cA (alloc h t n) := by
  apply List.ext_getElem?
  intro j
  rw [wld_key (alloc h t n)]
  by_cases hj : j < hz h
  · rw [List.getElem?_append_left (by rw [wld_len]; exact hj), wld_key, if_pos hj, if_pos (show j < hz (alloc h t n) from Nat.lt_succ_of_lt hj), mE_alloc_ne (by omega)]
  · rw [List.getElem?_append_right (by rw [wld_len]; omega), wld_len]
    by_cases he : j = hz h
    · subst he
      rw [Nat.sub_self, if_pos (show hz h < hz (alloc h t n) from Nat.lt_succ_self _)]
      rfl
    · rw [if_neg (show ¬ j < hz (alloc h t n) from fun q => by have q : j < hz h + 1 := q; omega), List.getElem?_eq_none (by simp; omega)]
def EnvOK (base : Nat) (adr : Nat → Nat) (cA : Nat → ClassId) (D : va_G) (w : (Nat → Int32) × Nat × Value) (s : State) : Prop :=
  va_K D vwCl (tysOf cA) s ∧ (∀ x ∈ NW, va_Nw x s) ∧ (∀ x ∈ elN, va_AO x s) ∧ (∀ q ∈ strW, vk_R q.1 q.2.1 q.2.2.1 (adr (1000000 + q.2.2.2)) s) ∧
  (∀ j, j < 14 → va_O "java/lang/String" (adr (1000000 + j)) (Af base) s s.heap ∧ va_OF "java/lang/String" "coder" "B" (.int 0) (adr (1000000 + j)) (Af base) s s.heap ∧ va_OF "java/lang/String" "value" "[B" (.ref (adr (1000100 + j))) (adr (1000000 + j)) (Af base) s s.heap ∧ va_T .byte (adr (1000100 + j)) (strs.getD j []).length (fun k => .int ((strs.getD j []).getD k 0)) (Af base) s s.heap) ∧
  va_Z "java/lang/String" "COMPACT_STRINGS" "Z" (.int 1) (Af base) s s.heap ∧ va_Z "jdk/internal/util/Preconditions" "SIOOBE_FORMATTER" "Ljava/util/function/BiFunction;" (upV adr w.2.2) (Af base) s s.heap ∧
  va_Z "ShortCut" "ABOVE" "[I" (.ref (adr 1000200)) (Af base) s s.heap ∧ va_T .int (adr 1000200) 6 (fun k => .int (aboveL.getD k 0)) (Af base) s s.heap ∧
  va_X (adr 1000300) w.2.1 w.1 s s.heap ∧ adr 1000300 < s.heap.size ∧ adr 1000300 < base
theorem EnvOK.to {base : Nat} {adr : Nat → Nat} {cA : Nat → ClassId} {D : va_G} {w : (Nat → Int32) × Nat × Value} {s U : State} (h : EnvOK base adr cA D w s) (hvm : s.vm.Alike U.vm) (hN : ∀ x ∈ NW, va_Nw x U) (hS : ∀ q ∈ strW, vk_R q.1 q.2.1 q.2.2.1 (adr (1000000 + q.2.2.2)) U) (hz : s.heap.size ≤ U.heap.size) (hq : ∀ a : Nat, a < s.heap.size → ¬ Af base a → U.heap[a]? = s.heap[a]?) : EnvOK base adr cA D w U := by
  obtain ⟨h1, h2, h3, h4, h5, h6, h7, h8, h9, h10, h11, h12⟩ := h
  refine ⟨va_K.moved hvm h1, hN, fun x hx => va_AO.moved hvm (h3 x hx), hS, fun j hj => ?_, va_Z.moved hvm (h6.kept hq), va_Z.moved hvm (h7.kept hq), va_Z.moved hvm (h8.kept hq), va_T.moved hvm (h9.kept hq), va_X.moved hvm (h10.kept (hq _ h11 (Nat.not_le.mpr h12))), Nat.lt_of_lt_of_le h11 hz, h12⟩
  obtain ⟨g1, g2, g3, g4⟩ := h5 j hj
  exact ⟨va_O.moved hvm (g1.kept hq), va_OF.moved hvm (g2.kept hq), va_OF.moved hvm (g3.kept hq), va_T.moved hvm (g4.kept hq)⟩
theorem nest_on {x : Cond} (h : isNest x = true) : x.onTables = true := by
  cases x <;> first | rfl | cases h
theorem NW_nest {x : Cond} (h : x ∈ NW) : isNest x = true := (List.mem_filter.mp h).2
theorem EnvOK.warm {base : Nat} {adr : Nat → Nat} {cA : Nat → ClassId} {D : va_G} {w : (Nat → Int32) × Nat × Value} {s U : State} (h : EnvOK base adr cA D w s) (hW : s.WarmedH U.vm) (hz : s.heap.size ≤ U.heap.size) (hq : ∀ a : Nat, a < s.heap.size → ¬ Af base a → U.heap[a]? = s.heap[a]?) : EnvOK base adr cA D w U := by
  refine h.to hW.alike (fun x hx => ?_) (fun q hq2 => vk_R.warm hW (h.2.2.2.1 q hq2)) hz hq
  have hn := NW_nest hx
  have hx := h.2.1 x hx
  cases x <;> first | exact va_Nw.warmM hW hx | exact va_Nw.warmF hW hx | cases hn
theorem EnvOK.blind {base : Nat} {adr : Nat → Nat} {cA : Nat → ClassId} {D : va_G} {w : (Nat → Int32) × Nat × Value} {s U : State} (h : EnvOK base adr cA D w s) (hv : s.vm = U.vm) (hh : U.heap = s.heap) : EnvOK base adr cA D w U := by
  refine h.to (by rw [hv]; exact Vm.Alike.refl U.vm) (fun x hx => va_Nw.same (nest_on (NW_nest hx)) hv (h.2.1 x hx)) (fun q hq2 => vk_R.same hv.symm (h.2.2.2.1 q hq2)) (by rw [hh]; exact Nat.le_refl _) (fun a _ _ => by rw [hh])
def QcOf (base : Nat) (adr : Nat → Nat) (cA : Nat → ClassId) (D : va_G) (r : Option Value) (h' : MH) : Array Value → State → Outcome → State → Prop := fun _ s o t => o = .returned (r.map (upV adr)) ∧ HL base adr cA D h' t.heap ∧ va_F (Af base) s t
def Ctx (base : Nat) (adr : Nat → Nat) (cA : Nat → ClassId) (D : va_G) (p : Program) (Rm : Room) (s : State) (m : MethodId) (args : Array Value) (meth : Method) (c : Code) (d : Nat) (μ : Mth) (L : Lcl) (h h' : MH) (H : Heap) (locs : List Loc) (cells slots : Nat) (ls : Array Slot) : Prop :=
  (p.tables.exec = Jvm.exec ∧ c.code = μ.2.1 ∧ c.maxLocals = μ.2.2.1 ∧ s.vm.findClass μ.1.cls = some m.cls ∧ (∀ w ∈ GW, w.before args s = true) ∧ meth.sig.returnType = μ.2.2.2 ∧ meth.locks = false ∧ meth.name = μ.1.name) ∧
  EnvOK base adr cA D h.1 s ∧ (base ≤ s.heap.size ∧ (∀ i, i < 1000000 → adr i = base + i) ∧ s.heap.size + cells = base + hz h) ∧ va_S (Af base) s.heap H locs ∧ HL base adr cA D h H ∧ LR adr L ls μ.2.2.1 ∧
  (d ≤ Rm.frames ∧ 48 * d ≤ Rm.locals ∧ cells + (hz h' - hz h) ≤ Rm.cells ∧ slots + (hs h' - hs h) ≤ Rm.slots)
def X0 (l : Launch) (base : Nat) (adr : Nat → Nat) (cA : Nat → ClassId) (D : va_G) : XT := fun d μ pc L S h r h' =>
  (hz h ≤ hz h' ∧ hs h ≤ hs h' ∧ h'.1 = h.1) ∧ ∀ (p : Program) (e : Env) (Rm : Room) (s : State) (m : MethodId) (args : Array Value) (below : List Frame) (meth : Method) (c : Code) (H : Heap) (locs : List Loc) (cells slots : Nat) (ls : Array Slot), Ctx base adr cA D p Rm s m args meth c d μ L h h' H locs cells slots ls →
    W p l e Rm s m args below meth c H locs cells slots (MQ below (QcOf base adr cA D r h') args s (cells + (hz h' - hz h)) (slots + (hs h' - hs h)) (Af base)) (F0 m pc ls (List.map (upV adr) S))
section CTX
variable {l : Launch} {base : Nat} {adr : Nat → Nat} {cA : Nat → ClassId} {D : va_G} {p : Program} {e : Env} {Rm : Room} {s : State} {m : MethodId} {args : Array Value} {below : List Frame} {meth : Method} {c : Code} {d : Nat} {μ : Mth} {L : Lcl} {h h' : MH} {H : Heap} {locs : List Loc} {cells slots : Nat} {ls : Array Slot} {pc : Nat} {Q : State → Prop} {rest : List Value}
theorem Ctx.hx (X : Ctx base adr cA D p Rm s m args meth c d μ L h h' H locs cells slots ls) : p.tables.exec = Jvm.exec := X.1.1
theorem Ctx.hb (X : Ctx base adr cA D p Rm s m args meth c d μ L h h' H locs cells slots ls) : c.code = μ.2.1 := X.1.2.1
theorem Ctx.hml (X : Ctx base adr cA D p Rm s m args meth c d μ L h h' H locs cells slots ls) : c.maxLocals = μ.2.2.1 := X.1.2.2.1
theorem Ctx.hown (X : Ctx base adr cA D p Rm s m args meth c d μ L h h' H locs cells slots ls) : s.vm.findClass μ.1.cls = some m.cls := X.1.2.2.2.1
theorem Ctx.hts (X : Ctx base adr cA D p Rm s m args meth c d μ L h h' H locs cells slots ls) : ∀ w ∈ GW, w.before args s = true := X.1.2.2.2.2.1
theorem Ctx.hret (X : Ctx base adr cA D p Rm s m args meth c d μ L h h' H locs cells slots ls) : meth.sig.returnType = μ.2.2.2 := X.1.2.2.2.2.2.1
theorem Ctx.hlocks (X : Ctx base adr cA D p Rm s m args meth c d μ L h h' H locs cells slots ls) : meth.locks = false := X.1.2.2.2.2.2.2.1
theorem Ctx.hname (X : Ctx base adr cA D p Rm s m args meth c d μ L h h' H locs cells slots ls) : meth.name = μ.1.name := X.1.2.2.2.2.2.2.2
theorem Ctx.henv (X : Ctx base adr cA D p Rm s m args meth c d μ L h h' H locs cells slots ls) : EnvOK base adr cA D h.1 s := X.2.1
theorem Ctx.hbs (X : Ctx base adr cA D p Rm s m args meth c d μ L h h' H locs cells slots ls) : base ≤ s.heap.size ∧ (∀ i, i < 1000000 → adr i = base + i) ∧ s.heap.size + cells = base + hz h := X.2.2.1
theorem Ctx.hS (X : Ctx base adr cA D p Rm s m args meth c d μ L h h' H locs cells slots ls) : va_S (Af base) s.heap H locs := X.2.2.2.1
theorem Ctx.hHL (X : Ctx base adr cA D p Rm s m args meth c d μ L h h' H locs cells slots ls) : HL base adr cA D h H := X.2.2.2.2.1
theorem Ctx.hlr (X : Ctx base adr cA D p Rm s m args meth c d μ L h h' H locs cells slots ls) : LR adr L ls μ.2.2.1 := X.2.2.2.2.2.1
theorem Ctx.hrm (X : Ctx base adr cA D p Rm s m args meth c d μ L h h' H locs cells slots ls) : d ≤ Rm.frames ∧ 48 * d ≤ Rm.locals ∧ cells + (hz h' - hz h) ≤ Rm.cells ∧ slots + (hs h' - hs h) ≤ Rm.slots := X.2.2.2.2.2.2
theorem Ctx.loc {L1 : Lcl} {ls1 : Array Slot} (X : Ctx base adr cA D p Rm s m args meth c d μ L h h' H locs cells slots ls) (h1 : LR adr L1 ls1 μ.2.2.1) : Ctx base adr cA D p Rm s m args meth c d μ L1 h h' H locs cells slots ls1 := ⟨X.1, X.2.1, X.2.2.1, X.2.2.2.1, X.2.2.2.2.1, h1, X.2.2.2.2.2.2⟩
theorem Ctx.hA (X : Ctx base adr cA D p Rm s m args meth c d μ L h h' H locs cells slots ls) : ∀ q, s.heap.size ≤ q → Af base q := fun _ hq => Nat.le_trans X.hbs.1 hq
theorem Ctx.hadr (X : Ctx base adr cA D p Rm s m args meth c d μ L h h' H locs cells slots ls) {i : Nat} (hi : i < hz h) : adr i = base + i := X.hbs.2.1 i (Nat.lt_of_lt_of_le hi X.hHL.2)
theorem mE_obj {i ci n : Nat} (ha : isA h i ci n) (hc : ci < 100) : mE adr cA h i = .inr (ci, (List.range n).map (fun k => if rfF ci k = true then va_rf ((hR h i k).map adr) else .int (hI h i k))) := by
  unfold mE
  rw [ha.2, if_pos hc]
theorem mE_ints {i n : Nat} (ha : isA h i 100 n) : mE adr cA h i = .inl (cA 0, n, .inl (hI h i)) := by
  unfold mE
  rw [ha.2, if_neg (by decide : ¬ (100 < 100)), if_pos rfl]
theorem mE_refs {i n e : Nat} (ha : isA h i (101 + e) n) : mE adr cA h i = .inl (cA (1 + e), n, .inr (.inr (.inr (.inr (fun k => (hR h i k).map adr))))) := by
  unfold mE
  rw [ha.2, if_neg (show ¬ (101 + e < 100) by omega), if_neg (show ¬ (101 + e = 100) by omega), show 101 + e - 100 = 1 + e by omega]
theorem cls_lt {ci n : Nat} {C : String} {T : u_T} (hc : vwCl[ci]? = some (C, T, n)) : ci < 11 := (List.getElem?_eq_some_iff.mp hc).1
theorem Ctx.getf {idx ci k n i : Nat} {ty : FieldType} {fin : Bool} (X : Ctx base adr cA D p Rm s m args meth c d μ L h h' H locs cells slots ls) (hl : FLk μ.1.cls idx ci k n ty fin) (ha : isA h i ci n) {v : Value} (hv : (if rfF ci k = true then va_rf ((hR h i k).map adr) else .int (hI h i k)) = v) (hf : Fe μ pc (.getfield idx) 3)
    (kk : W p l e Rm s m args below meth c H locs cells slots Q (F0 m (pc + 3) ls (v :: rest))) : W p l e Rm s m args below meth c H locs cells slots Q (F0 m pc ls (.ref (adr i) :: rest)) := by
  obtain ⟨Cn, T, hc, hk, hlk, -, -, -⟩ := hl
  obtain ⟨q, hq⟩ := wld_get (base := base) (adr := adr) (cA := cA) ha.1
  rw [mE_obj ha (by have := cls_lt hc; omega)] at hq
  rw [X.hadr ha.1]
  refine va_get X.hx X.hb X.hts (clsW hc) X.hown X.henv.1 X.hHL.1 q hq hc k hk (X.hts _ hlk) (fun _ z => z) ?_ hf kk
  rw [List.getElem?_map, List.getElem?_range hk]
  exact congrArg some hv
theorem Ctx.hupd {h1 : MH} {H1 : Heap} {locs1 : List Loc} (X : Ctx base adr cA D p Rm s m args meth c d μ L h h' H locs cells slots ls) (hP : va_P D vwCl (wld base adr cA h1) H1) (hS : va_S (Af base) s.heap H1 locs1) (e1 : h1.1 = h.1) (e2 : hz h1 = hz h) (e3 : hs h1 = hs h) : Ctx base adr cA D p Rm s m args meth c d μ L h1 h' H1 locs1 cells slots ls := by
  refine ⟨X.1, by rw [e1]; exact X.2.1, by rw [e2]; exact X.2.2.1, hS, ⟨hP, by rw [e2]; exact X.hHL.2⟩, X.hlr, ?_⟩
  rw [e2, e3]
  exact X.hrm
theorem tyR_nar {ty : FieldType} (h : tyR ty) (a : Nat) : narrow ty (.ref a) = .ref a := by
  rcases h with ⟨c, rfl⟩ | ⟨t, rfl⟩ <;> rfl
theorem tyR_fit {ty : FieldType} (h : tyR ty) (a : Nat) : fits ty (.ref a) = true := by
  rcases h with ⟨c, rfl⟩ | ⟨t, rfl⟩ <;> rfl
theorem mE_other {h1 : MH} {i j : Nat} (e : hk h1 = hk h) (eI : hI h1 j = hI h j) (eR : hR h1 j = hR h j) : mE adr cA h1 j = mE adr cA h j := by
  unfold mE
  rw [e, eI, eR]
theorem mE_putI {i ci k n idx : Nat} {ty : FieldType} {fin : Bool} {v : Int32} (hF : rfF ci k = false) (ha : isA h i ci n) (hl : FLk μ.1.cls idx ci k n ty fin) : mE adr cA (putI h i k v) i = .inr (ci, ((List.range n).map (fun k => if rfF ci k = true then va_rf ((hR h i k).map adr) else .int (hI h i k))).set k (.int v)) ∧ ∀ j, j ≠ i → mE adr cA (putI h i k v) j = mE adr cA h j := by
  obtain ⟨Cn, T, hc, hk, -⟩ := hl
  refine ⟨?_, fun j hj => mE_other (i := i) rfl (by show va_up (hI h) i _ j = _; rw [va_up_ne _ _ hj]) rfl⟩
  rw [mE_obj (h := putI h i k v) (ci := ci) (n := n) ha (by have := cls_lt hc; omega)]
  congr 2
  apply List.ext_getElem?
  intro j
  by_cases hj : j = k
  · subst hj
    rw [List.getElem?_set_self (by simpa using hk), List.getElem?_map, List.getElem?_range hk]
    show some (if rfF ci j = true then _ else Value.int (va_up (hI h) i (va_up (hI h i) j v) i j)) = _
    rw [if_neg (by rw [hF]; decide), va_up_self, va_up_self]
  · rw [List.getElem?_set_ne (Ne.symm hj), List.getElem?_map, List.getElem?_map]
    by_cases hl : j < n
    · rw [List.getElem?_range hl]
      show some (if rfF ci j = true then _ else Value.int (va_up (hI h) i (va_up (hI h i) k v) i j)) = some (if rfF ci j = true then _ else _)
      rw [va_up_self, va_up_ne _ _ hj]
      rfl
    · rw [List.getElem?_eq_none (by rw [List.length_range]; omega)]
      rfl
theorem mE_putR {i ci k n idx j0 : Nat} {ty : FieldType} {fin : Bool} (hF : rfF ci k = true) (ha : isA h i ci n) (hl : FLk μ.1.cls idx ci k n ty fin) : mE adr cA (putR h i k (some j0)) i = .inr (ci, ((List.range n).map (fun k => if rfF ci k = true then va_rf ((hR h i k).map adr) else .int (hI h i k))).set k (.ref (adr j0))) ∧ ∀ j, j ≠ i → mE adr cA (putR h i k (some j0)) j = mE adr cA h j := by
  obtain ⟨Cn, T, hc, hk, -⟩ := hl
  refine ⟨?_, fun j hj => mE_other (i := i) rfl rfl (by show va_up (hR h) i _ j = _; rw [va_up_ne _ _ hj])⟩
  rw [mE_obj (h := putR h i k (some j0)) (ci := ci) (n := n) ha (by have := cls_lt hc; omega)]
  congr 2
  apply List.ext_getElem?
  intro j
  by_cases hj : j = k
  · subst hj
    rw [List.getElem?_set_self (by simpa using hk), List.getElem?_map, List.getElem?_range hk]
    show some (if rfF ci j = true then va_rf ((va_up (hR h) i (va_up (hR h i) j (some j0)) i j).map adr) else _) = _
    rw [if_pos hF, va_up_self, va_up_self]
    rfl
  · rw [List.getElem?_set_ne (Ne.symm hj), List.getElem?_map, List.getElem?_map]
    by_cases hl : j < n
    · rw [List.getElem?_range hl]
      show some (if rfF ci j = true then va_rf ((va_up (hR h) i (va_up (hR h i) k (some j0)) i j).map adr) else _) = some (if rfF ci j = true then _ else _)
      rw [va_up_self, va_up_ne _ _ hj]
      rfl
    · rw [List.getElem?_eq_none (by rw [List.length_range]; omega)]
      rfl
theorem Ctx.putf {idx ci k n i : Nat} {ty : FieldType} {fin : Bool} (X : Ctx base adr cA D p Rm s m args meth c d μ L h h' H locs cells slots ls) (hl : FLk μ.1.cls idx ci k n ty fin) (ha : isA h i ci n) (hfin : fin = false ∨ (fin = true ∧ μ.1.name = "<init>" ∧ (vwCl[ci]?).map (·.1) = some μ.1.cls)) {v : Value} (hn : narrow ty v = v) (hfit : fits ty v = true) {h1 : MH}
    (hm : mE adr cA h1 i = .inr (ci, ((List.range n).map (fun k => if rfF ci k = true then va_rf ((hR h i k).map adr) else .int (hI h i k))).set k v) ∧ ∀ j, j ≠ i → mE adr cA h1 j = mE adr cA h j) (e1 : h1.1 = h.1) (e2 : hz h1 = hz h) (e3 : hs h1 = hs h) (_ : hk h1 = hk h) (hf : Fe μ pc (.putfield idx) 3)
    (kk : ∀ {H1 : Heap} {locs1 : List Loc}, Ctx base adr cA D p Rm s m args meth c d μ L h1 h' H1 locs1 cells slots ls → W p l e Rm s m args below meth c H1 locs1 cells slots Q (F0 m (pc + 3) ls rest)) : W p l e Rm s m args below meth c H locs cells slots Q (F0 m pc ls (v :: .ref (adr i) :: rest)) := by
  obtain ⟨Cn, T, hc, hk, hlk, hpt, hft, hC⟩ := hl
  obtain ⟨q, hq⟩ := wld_get (base := base) (adr := adr) (cA := cA) ha.1
  have hset := fun e (he : mE adr cA h1 i = e) => wld_set ha.1 hq e2 he hm.2
  rw [mE_obj ha (by have := cls_lt hc; omega)] at hq
  rw [X.hadr ha.1]
  rcases hfin with rfl | ⟨rfl, hini, hcm⟩
  · refine va_put X.hx X.hb X.hts (clsW hc) (fun k => ((parseFieldDescriptor (T k).2.2.1).getD .int)) (clsT hc) (clsD hc) X.hown X.henv.1 X.hHL.1 wld_D X.hS q hq hc k hk (X.hts _ hlk) (fun _ z => z) hft hpt hn hfit (by simpa using hk) hf (fun H1 locs1 hP _ hS => ?_)
    rw [hset _ hm.1] at hP
    exact kk (X.hupd hP hS e1 e2 e3)
  · have hCo : (T k).1 = μ.1.cls := by
      rw [hc] at hcm
      exact hC.trans (Option.some.inj hcm)
    refine va_putF X.hx X.hb X.hts (clsW hc) (fun k => ((parseFieldDescriptor (T k).2.2.1).getD .int)) (clsT hc) (clsD hc) X.hown X.henv.1 X.hHL.1 wld_D X.hS q hq hc k hk (X.hts _ hlk) (fun _ z => z) hft (X.hname.trans hini) hCo hpt hn hfit (by simpa using hk) hf (fun H1 locs1 hP _ hS => ?_)
    rw [hset _ hm.1] at hP
    exact kk (X.hupd hP hS e1 e2 e3)
theorem tys0 : (tysOf cA)[0]? = some (cA 0, .int) := rfl
theorem Ctx.iald {i n : Nat} {x : Int32} (X : Ctx base adr cA D p Rm s m args meth c d μ L h h' H locs cells slots ls) (ha : isA h i 100 n) (hin : vp_in x n) (hf : Fe μ pc .iaload 1)
    (kk : W p l e Rm s m args below meth c H locs cells slots Q (F0 m (pc + 1) ls (.int (hI h i x.toNatClampNeg) :: rest))) : W p l e Rm s m args below meth c H locs cells slots Q (F0 m pc ls (.int x :: .ref (adr i) :: rest)) := by
  obtain ⟨q, hq⟩ := wld_get (base := base) (adr := adr) (cA := cA) ha.1
  rw [mE_ints ha] at hq
  rw [X.hadr ha.1]
  exact va_iald X.hx X.hb X.henv.1 X.hHL.1 q 0 hq tys0 hin hf kk
theorem Ctx.iast {i n : Nat} {x v : Int32} (X : Ctx base adr cA D p Rm s m args meth c d μ L h h' H locs cells slots ls) (ha : isA h i 100 n) (hin : vp_in x n) (hf : Fe μ pc .iastore 1)
    (kk : ∀ {H1 : Heap} {locs1 : List Loc}, Ctx base adr cA D p Rm s m args meth c d μ L (putI h i x.toNatClampNeg v) h' H1 locs1 cells slots ls → W p l e Rm s m args below meth c H1 locs1 cells slots Q (F0 m (pc + 1) ls rest)) : W p l e Rm s m args below meth c H locs cells slots Q (F0 m pc ls (.int v :: .int x :: .ref (adr i) :: rest)) := by
  obtain ⟨q, hq⟩ := wld_get (base := base) (adr := adr) (cA := cA) ha.1
  have hset := wld_set (h1 := putI h i x.toNatClampNeg v) ha.1 hq rfl (mE_ints (h := putI h i x.toNatClampNeg v) (n := n) ha) (fun j hj => mE_other (i := i) rfl (by show va_up (hI h) i _ j = _; rw [va_up_ne _ _ hj]) rfl)
  rw [mE_ints ha] at hq
  rw [X.hadr ha.1]
  refine va_iast X.hx X.hb X.henv.1 X.hHL.1 wld_D X.hS q 0 hq tys0 hin hf (fun H1 locs1 hP _ hS => kk (X.hupd ?_ hS rfl rfl rfl))
  rw [← hset]
  have e : hI (putI h i x.toNatClampNeg v) i = upd (hI h i) x.toNatClampNeg v := by
    show va_up (hI h) i _ i = _
    rw [va_up_self]
    rfl
  rw [e]
  exact hP
theorem Ctx.aald {i n e0 : Nat} {x : Int32} {v : Value} (X : Ctx base adr cA D p Rm s m args meth c d μ L h h' H locs cells slots ls) (he : e0 < 5) (ha : isA h i (101 + e0) n) (hin : vp_in x n) (hv : va_rf ((hR h i x.toNatClampNeg).map adr) = v) (hf : Fe μ pc .aaload 1)
    (kk : W p l e Rm s m args below meth c H locs cells slots Q (F0 m (pc + 1) ls (v :: rest))) : W p l e Rm s m args below meth c H locs cells slots Q (F0 m pc ls (.int x :: .ref (adr i) :: rest)) := by
  obtain ⟨q, hq⟩ := wld_get (base := base) (adr := adr) (cA := cA) ha.1
  rw [mE_refs ha] at hq
  rw [X.hadr ha.1]
  obtain ⟨Cn, hC⟩ : ∃ Cn, elN[e0]? = some Cn := ⟨_, List.getElem?_eq_getElem (by exact he)⟩
  subst hv
  exact va_aldq X.hx X.hb X.henv.1 X.hHL.1 q (1 + e0) hq (tysOf_el cA hC) hin hf kk
theorem elC_el {e0 ci : Nat} (h : elC[e0]? = some ci) : ∃ (Cn : String) (T : u_T) (n : Nat), elN[e0]? = some Cn ∧ vwCl[ci]? = some (Cn, T, n) := by
  match e0, h with
  | 0, h => cases h; exact ⟨_, _, _, rfl, rfl⟩
  | 1, h => cases h; exact ⟨_, _, _, rfl, rfl⟩
  | 2, h => cases h; exact ⟨_, _, _, rfl, rfl⟩
  | 3, h => cases h; exact ⟨_, _, _, rfl, rfl⟩
  | _ + 4, h => cases h
theorem putR_refs {i n e0 k j0 : Nat} (ha : isA h i (101 + e0) n) : mE adr cA (putR h i k (some j0)) i = .inl (cA (1 + e0), n, .inr (.inr (.inr (.inr (va_up (fun k => (hR h i k).map adr) k (some (adr j0))))))) := by
  rw [mE_refs (h := putR h i k (some j0)) (e := e0) (n := n) ha]
  have e : (fun q => (hR (putR h i k (some j0)) i q).map adr) = va_up (fun q => (hR h i q).map adr) k (some (adr j0)) := by
    funext q
    show (va_up (hR h) i (va_up (hR h i) k (some j0)) i q).map adr = _
    rw [va_up_self]
    by_cases hq : q = k
    · subst hq
      rw [va_up_self, va_up_self]
      rfl
    · rw [va_up_ne _ _ hq, va_up_ne _ _ hq]
  rw [e]
theorem Ctx.aast {i n e0 j ci nc : Nat} {x : Int32} (X : Ctx base adr cA D p Rm s m args meth c d μ L h h' H locs cells slots ls) (he : elC[e0]? = some ci) (ha : isA h i (101 + e0) n) (hin : vp_in x n) (hb : isA h j ci nc) (hf : Fe μ pc .aastore 1)
    (kk : ∀ {H1 : Heap} {locs1 : List Loc}, Ctx base adr cA D p Rm s m args meth c d μ L (putR h i x.toNatClampNeg (some j)) h' H1 locs1 cells slots ls → W p l e Rm s m args below meth c H1 locs1 cells slots Q (F0 m (pc + 1) ls rest)) : W p l e Rm s m args below meth c H locs cells slots Q (F0 m pc ls (.ref (adr j) :: .int x :: .ref (adr i) :: rest)) := by
  obtain ⟨q, hq⟩ := wld_get (base := base) (adr := adr) (cA := cA) ha.1
  obtain ⟨q2, hq2⟩ := wld_get (base := base) (adr := adr) (cA := cA) hb.1
  obtain ⟨Cn, T, nn, hE, hc⟩ := elC_el he
  have hset := wld_set (h1 := putR h i x.toNatClampNeg (some j)) ha.1 hq rfl (putR_refs ha) (fun j hj => mE_other (i := i) rfl rfl (by show va_up (hR h) i _ j = _; rw [va_up_ne _ _ hj]))
  rw [mE_refs ha] at hq
  rw [mE_obj hb (by have := cls_lt hc; omega)] at hq2
  rw [X.hadr ha.1]
  rw [X.hadr hb.1] at hset ⊢
  exact va_astq X.hx X.hb X.henv.1 X.hHL.1 wld_D X.hS q (1 + e0) q2 ci hq (tysOf_el cA hE) hq2 hc hin hf (fun H1 locs1 hP _ hS => kk (X.hupd (by rw [← hset]; exact hP) hS rfl rfl rfl))
theorem Ctx.aastS {i n j : Nat} {x : Int32} (X : Ctx base adr cA D p Rm s m args meth c d μ L h h' H locs cells slots ls) (ha : isA h i 105 n) (hin : vp_in x n) (hb : j < 14) (hf : Fe μ pc .aastore 1)
    (kk : ∀ {H1 : Heap} {locs1 : List Loc}, Ctx base adr cA D p Rm s m args meth c d μ L (putR h i x.toNatClampNeg (some (1000000 + j))) h' H1 locs1 cells slots ls → W p l e Rm s m args below meth c H1 locs1 cells slots Q (F0 m (pc + 1) ls rest)) : W p l e Rm s m args below meth c H locs cells slots Q (F0 m pc ls (.ref (adr (1000000 + j)) :: .int x :: .ref (adr i) :: rest)) := by
  obtain ⟨q, hq⟩ := wld_get (base := base) (adr := adr) (cA := cA) ha.1
  have hset := wld_set (h1 := putR h i x.toNatClampNeg (some (1000000 + j))) ha.1 hq rfl (putR_refs (e0 := 4) ha) (fun j hj => mE_other (i := i) rfl rfl (by show va_up (hR h) i _ j = _; rw [va_up_ne _ _ hj]))
  rw [mE_refs (e := 4) ha] at hq
  rw [X.hadr ha.1]
  obtain ⟨cell, g1, g2, g3, -⟩ := (X.henv.2.2.2.2.1 j hb).1.kept X.hS.2.1
  obtain ⟨kC, hkC, -⟩ := Vm.findClass_spec g3
  have hr : va_Any "java/lang/String" s H (adr (1000000 + j)) := ⟨cell, g1, g2, ⟨kC, hkC⟩, fun comp hcomp => by
    rw [g3] at hcomp
    cases hcomp
    exact va_asg _ _⟩
  exact va_astqM X.hx X.hb X.henv.1 X.hHL.1 wld_D X.hS q 5 hq (tysOf_el cA (e := 4) rfl) hr hin hf (fun H1 locs1 hP _ hS => kk (X.hupd (by rw [← hset]; exact hP) hS rfl rfl rfl))
theorem Ctx.alen {i t n : Nat} (X : Ctx base adr cA D p Rm s m args meth c d μ L h h' H locs cells slots ls) (ht : 100 ≤ t ∧ t < 106) (ha : isA h i t n) (hf : Fe μ pc .arraylength 1)
    (kk : W p l e Rm s m args below meth c H locs cells slots Q (F0 m (pc + 1) ls (.int (Int32.ofNat n) :: rest))) : W p l e Rm s m args below meth c H locs cells slots Q (F0 m pc ls (.ref (adr i) :: rest)) := by
  obtain ⟨q, hq⟩ := wld_get (base := base) (adr := adr) (cA := cA) ha.1
  rw [X.hadr ha.1]
  by_cases h0 : t = 100
  · subst h0
    rw [mE_ints ha] at hq
    exact va_alen X.hx X.hb X.henv.1 X.hHL.1 q 0 hq tys0 rfl hf kk
  · obtain ⟨e0, rfl⟩ : ∃ e0, t = 101 + e0 := ⟨t - 101, by omega⟩
    rw [mE_refs ha] at hq
    obtain ⟨Cn, hC⟩ : ∃ Cn, elN[e0]? = some Cn := ⟨_, List.getElem?_eq_getElem (show e0 < 5 by omega)⟩
    exact va_alen X.hx X.hb X.henv.1 X.hHL.1 q (1 + e0) hq (tysOf_el cA hC) rfl hf kk
/-- the heap's size, from the machine's own count -/
theorem Ctx.size {g : JFrame} (X : Ctx base adr cA D p Rm s m args meth c d μ L h h' H locs cells slots ls) (k : H.size = base + hz h → W p l e Rm s m args below meth c H locs cells slots Q g) : W p l e Rm s m args below meth c H locs cells slots Q g := by
  intro T hT Y
  have h1 := Y.heapSize
  rw [hT] at h1
  have h2 := X.hbs.2.2
  have h3 : base + hz h ≤ H.size := by
    by_cases h0 : hz h = 0
    · rw [h0]
      exact Nat.le_trans X.hbs.1 X.hS.1
    · obtain ⟨q, hq⟩ := wld_get (base := base) (adr := adr) (cA := cA) (h := h) (i := hz h - 1) (by omega)
      have := (X.hHL.1 q _ hq).lt
      simp only at this
      omega
  exact k (by omega) T hT Y
/-- a new cell's place, by the same count -/
theorem Ctx.place {q : Nat} {H1 : Heap} {x0 : va_E} {g : JFrame} {cells1 slots1 : Nat} (X : Ctx base adr cA D p Rm s m args meth c d μ L h h' H locs cells slots ls) (hc : cells1 = cells + 1) (hP : va_P D vwCl (wld base adr cA h ++ [(q, x0)]) H1) (hD : va_D (Af base) (wld base adr cA h ++ [(q, x0)])) (k : q = base + hz h → W p l e Rm s m args below meth c H1 locs cells1 slots1 Q g) : W p l e Rm s m args below meth c H1 locs cells1 slots1 Q g := by
  intro T hT Y
  have h1 := Y.heapSize
  rw [hT, hc] at h1
  have h2 := X.hbs.2.2
  have hlast : (wld base adr cA h ++ [(q, x0)])[hz h]? = some (q, x0) := by
    rw [List.getElem?_append_right (by rw [wld_len]; exact Nat.le_refl _), wld_len, Nat.sub_self]
    rfl
  have h3 := (hP _ _ hlast).lt
  simp only at h3
  have h4 : base ≤ q := hD.2 _ _ hlast
  refine k ?_ T hT Y
  by_cases h5 : q < base + hz h
  · exfalso
    have h6 : (wld base adr cA h ++ [(q, x0)])[q - base]? = some (base + (q - base), mE adr cA h (q - base)) := by
      rw [List.getElem?_append_left (by rw [wld_len]; omega), wld_key, if_pos (by omega)]
    have := hD.1 _ _ _ _ h6 hlast (by simp only; omega)
    omega
  · omega
theorem Ctx.fresh {t n q : Nat} {H1 : Heap} {x0 : va_E} (X : Ctx base adr cA D p Rm s m args meth c d μ L h h' H locs cells slots ls) (hz0 : hz h < 1000000) (m1 : hz h + 1 ≤ hz h') (m2 : hs h + n ≤ hs h') (hx0 : mE adr cA (alloc h t n) (hz h) = x0) (hq : q = base + hz h) (hP : va_P D vwCl (wld base adr cA h ++ [(q, x0)]) H1) (hS : va_S (Af base) s.heap H1 locs) : Ctx base adr cA D p Rm s m args meth c d μ L (alloc h t n) h' H1 locs (cells + 1) (slots + n) ls := by
  subst hq
  subst hx0
  rw [wld_push] at hP
  have h1 := X.hbs
  have h2 := X.hrm
  refine ⟨X.1, X.2.1, ⟨h1.1, h1.2.1, ?_⟩, hS, ⟨hP, hz0⟩, X.hlr, h2.1, h2.2.1, ?_, ?_⟩
  · show s.heap.size + (cells + 1) = base + (hz h + 1)
    omega
  · show cells + 1 + (hz h' - (hz h + 1)) ≤ Rm.cells
    omega
  · show slots + n + (hs h' - (hs h + n)) ≤ Rm.slots
    omega
theorem Ctx.newa {x : Int32} {n : Nat} {Q : Nat → Nat → State → Prop} (X : Ctx base adr cA D p Rm s m args meth c d μ L h h' H locs cells slots ls) (m1 : hz (alloc h 100 n) ≤ hz h') (m2 : hs (alloc h 100 n) ≤ hs h') (hx0 : ¬ x < 0) (hn : x.toNatClampNeg = n) (hb : n ≤ 100000) (hz0 : hz h < 1000000) (hf : Fe μ pc (.newarray .int) 2)
    (kk : ∀ {H1 : Heap} {locs1 : List Loc} {cells1 slots1 : Nat}, Ctx base adr cA D p Rm s m args meth c d μ L (alloc h 100 n) h' H1 locs1 cells1 slots1 ls → W p l e Rm s m args below meth c H1 locs1 cells1 slots1 (Q (cells1 + (hz h' - hz (alloc h 100 n))) (slots1 + (hs h' - hs (alloc h 100 n)))) (F0 m (pc + 2) ls (.ref (adr (hz h)) :: rest))) : W p l e Rm s m args below meth c H locs cells slots (Q (cells + (hz h' - hz h)) (slots + (hs h' - hs h))) (F0 m pc ls (.int x :: rest)) := by
  have m1 : hz h + 1 ≤ hz h' := m1
  have m2 : hs h + n ≤ hs h' := m2
  have h2 := X.hrm
  have e1 : cells + (hz h' - hz h) = cells + 1 + (hz h' - (hz h + 1)) := by omega
  have e2 : slots + (hs h' - hs h) = slots + n + (hs h' - (hs h + n)) := by omega
  rw [e1, e2]
  refine va_newa (atype := .int) (ty := .int) (N' := n) (a0 := (n, .inl (fun _ => 0))) X.hx X.hb (X.hts _ gw_int) rfl X.henv.1 X.hHL.1 wld_D X.hS X.hA (fun _ => rfl) hx0 hn (by show n * 4 ≤ _; omega) (by omega) (by omega) hf (fun q c1 H1 hK hP hD hS => ?_)
  have hc1 : c1 = cA 0 := by
    have a1 := (hK.2 6 (c1, .int) (by rfl)).2
    have a2 := (hK.2 0 (cA 0, .int) (by rfl)).2
    exact Option.some.inj (a1.symm.trans a2)
  subst hc1
  refine X.place rfl hP hD (fun hq => ?_)
  have hx1 : mE adr cA (alloc h 100 n) (hz h) = .inl (cA 0, n, .inl (fun _ => 0)) := by
    rw [mE_ints (h := alloc h 100 n) (n := n) ⟨Nat.lt_succ_self _, va_up_self _ _ _⟩]
    show Sum.inl (cA 0, n, Sum.inl (va_up (hI h) (hz h) _ (hz h))) = _
    rw [va_up_self]
  have := kk (X.fresh hz0 m1 m2 hx1 hq hP hS)
  rw [X.hbs.2.1 _ hz0, ← hq] at this
  exact this
theorem Ctx.anew {x : Int32} {n e0 idx : Nat} {Cn : String} {Q : Nat → Nat → State → Prop} (X : Ctx base adr cA D p Rm s m args meth c d μ L h h' H locs cells slots ls) (m1 : hz (alloc h (101 + e0) n) ≤ hz h') (m2 : hs (alloc h (101 + e0) n) ≤ hs h') (he : elN[e0]? = some Cn) (hl : Cond.classLink μ.1.cls idx Cn ∈ GW) (hx0 : ¬ x < 0) (hn : x.toNatClampNeg = n) (hb : n ≤ 100000) (hz0 : hz h < 1000000) (hf : Fe μ pc (.anewarray idx) 3)
    (kk : ∀ {H1 : Heap} {locs1 : List Loc} {cells1 slots1 : Nat}, Ctx base adr cA D p Rm s m args meth c d μ L (alloc h (101 + e0) n) h' H1 locs1 cells1 slots1 ls → W p l e Rm s m args below meth c H1 locs1 cells1 slots1 (Q (cells1 + (hz h' - hz (alloc h (101 + e0) n))) (slots1 + (hs h' - hs (alloc h (101 + e0) n)))) (F0 m (pc + 3) ls (.ref (adr (hz h)) :: rest))) : W p l e Rm s m args below meth c H locs cells slots (Q (cells + (hz h' - hz h)) (slots + (hs h' - hs h))) (F0 m pc ls (.int x :: rest)) := by
  have m1 : hz h + 1 ≤ hz h' := m1
  have m2 : hs h + n ≤ hs h' := m2
  have h2 := X.hrm
  have e1 : cells + (hz h' - hz h) = cells + 1 + (hz h' - (hz h + 1)) := by omega
  have e2 : slots + (hs h' - hs h) = slots + n + (hs h' - (hs h + n)) := by omega
  rw [e1, e2]
  refine va_newq (N' := n) X.hx X.hb X.hown (X.hts _ hl) (X.henv.2.2.1 _ (List.mem_of_getElem? he)) X.henv.1 X.hHL.1 wld_D X.hS X.hA hx0 hn (by omega) (by omega) (by omega) hf (fun q c1 H1 hK hP hD hS => ?_)
  have hc1 : c1 = cA (1 + e0) := by
    have a1 := (hK.2 6 (c1, .object Cn) (by rfl)).2
    have a2 := (hK.2 (1 + e0) (cA (1 + e0), .object Cn) (by rw [List.getElem?_append_left (List.getElem?_eq_some_iff.mp (tysOf_el cA he)).1]; exact tysOf_el cA he)).2
    obtain ⟨-, -, -, -, -, b1⟩ := a1
    obtain ⟨-, -, -, -, -, b2⟩ := a2
    exact Option.some.inj (b1.symm.trans b2)
  subst hc1
  refine X.place rfl hP hD (fun hq => ?_)
  have hx1 : mE adr cA (alloc h (101 + e0) n) (hz h) = .inl (cA (1 + e0), n, .inr (.inr (.inr (.inr (fun _ => none))))) := by
    rw [mE_refs (h := alloc h (101 + e0) n) (n := n) (e := e0) ⟨Nat.lt_succ_self _, va_up_self _ _ _⟩]
    have e : (fun k => (hR (alloc h (101 + e0) n) (hz h) k).map adr) = fun _ => none := by
      funext k
      show (va_up (hR h) (hz h) _ (hz h) k).map adr = _
      rw [va_up_self]
      rfl
    rw [e]
  have := kk (X.fresh hz0 m1 m2 hx1 hq hP hS)
  rw [X.hbs.2.1 _ hz0, ← hq] at this
  exact this
theorem Ctx.newo {ci n idx : Nat} {Q : Nat → Nat → State → Prop} (X : Ctx base adr cA D p Rm s m args meth c d μ L h h' H locs cells slots ls) (m1 : hz (alloc h ci n) ≤ hz h') (m2 : hs (alloc h ci n) ≤ hs h') (hl : NLk μ.1.cls idx ci n) (hz0 : hz h < 1000000) (hf : Fe μ pc (.new idx) 3)
    (kk : ∀ {H1 : Heap} {locs1 : List Loc} {cells1 slots1 : Nat}, Ctx base adr cA D p Rm s m args meth c d μ L (alloc h ci n) h' H1 locs1 cells1 slots1 ls → W p l e Rm s m args below meth c H1 locs1 cells1 slots1 (Q (cells1 + (hz h' - hz (alloc h ci n))) (slots1 + (hs h' - hs (alloc h ci n)))) (F0 m (pc + 3) ls (.ref (adr (hz h)) :: rest))) : W p l e Rm s m args below meth c H locs cells slots (Q (cells + (hz h' - hz h)) (slots + (hs h' - hs h))) (F0 m pc ls rest) := by
  have m1 : hz h + 1 ≤ hz h' := m1
  have m2 : hs h + n ≤ hs h' := m2
  have h2 := X.hrm
  have e1 : cells + (hz h' - hz h) = cells + 1 + (hz h' - (hz h + 1)) := by omega
  have e2 : slots + (hs h' - hs h) = slots + n + (hs h' - (hs h + n)) := by omega
  rw [e1, e2]
  obtain ⟨Cn, T, hc, g1, g2, g3⟩ := hl
  have hci := cls_lt hc
  refine va_new (ci := ci) (fs := (List.range n).map (fun k => if rfF ci k = true then Value.null else .int 0)) X.hx X.hb X.hts (clsW hc) (fun k => ((parseFieldDescriptor (T k).2.2.1).getD .int)) (clsT hc) X.hown (X.hts _ g1) (X.hts _ g2) (X.hts _ g3) X.henv.1 X.hHL.1 wld_D X.hS X.hA hc (fun j hj => ?_) (by omega) (by omega) hf (fun q H1 hP hD hS => ?_)
  · unfold vp_V
    rw [List.getD_eq_getElem?_getD, List.getElem?_map, List.getElem?_range hj]
    exact clsV hc j hj
  · refine X.place rfl hP hD (fun hq => ?_)
    have hx1 : mE adr cA (alloc h ci n) (hz h) = .inr (ci, (List.range n).map (fun k => if rfF ci k = true then Value.null else .int 0)) := by
      rw [mE_obj (h := alloc h ci n) (n := n) (ci := ci) ⟨Nat.lt_succ_self _, va_up_self _ _ _⟩ (by omega)]
      congr 2
      apply List.map_congr_left
      intro k _
      show (if rfF ci k = true then va_rf ((va_up (hR h) (hz h) _ (hz h) k).map adr) else Value.int (va_up (hI h) (hz h) _ (hz h) k)) = _
      rw [va_up_self, va_up_self]
      rfl
    have := kk (X.fresh hz0 m1 m2 hx1 hq hP hS)
    rw [X.hbs.2.1 _ hz0, ← hq] at this
    exact this
theorem cat_le : ∀ (S : List Value), (S.map fun v => v.category).sum ≤ 2 * S.length
  | [] => by simp
  | v :: S => by
    have h1 := cat_le S
    have h2 := lv_cat v
    simp only [List.map_cons, List.sum_cons, List.length_cons]
    omega
theorem cat_up (S : List Value) (hS : (S.map fun v => v.category).sum ≤ 8) : ((S.map (upV adr)).map fun v => v.category).sum ≤ 8 := by
  rw [List.map_map]
  have e : ((fun v => v.category) ∘ upV adr) = fun v : Value => v.category := funext fun v => up_cat
  rw [e]
  exact hS
theorem Ctx.acopy {idx i j n0 n1 : Nat} {sp dp n : Int32} {S : List Value} (X : Ctx base adr cA D p Rm s m args meth c d μ L h h' H locs cells slots ls) (hl : Cond.methodLink μ.1.cls idx arraycopyName ∈ GW) (hd : 0 < d) (hS : (S.map fun v => v.category).sum ≤ 8) (ha : isA h i 100 n0) (hb : isA h j 100 n1) (h1 : ¬ sp < 0) (h2 : ¬ dp < 0) (h3 : ¬ n < 0) (h4 : sp.toNatClampNeg + n.toNatClampNeg ≤ n0) (h5 : dp.toNatClampNeg + n.toNatClampNeg ≤ n1) (hf : Fe μ pc (.invokestatic idx) 3)
    (kk : ∀ {H1 : Heap} {locs1 : List Loc}, Ctx base adr cA D p Rm s m args meth c d μ L (rowI h j (va_cpy (hI h i) (hI h j) sp.toNatClampNeg dp.toNatClampNeg n.toNatClampNeg)) h' H1 locs1 cells slots ls → W p l e Rm s m args below meth c H1 locs1 cells slots Q (F0 m (pc + 3) ls (S.map (upV adr)))) : W p l e Rm s m args below meth c H locs cells slots Q (F0 m pc ls (.int n :: .int dp :: .ref (adr j) :: .int sp :: .ref (adr i) :: S.map (upV adr))) := by
  obtain ⟨q, hq⟩ := wld_get (base := base) (adr := adr) (cA := cA) ha.1
  obtain ⟨q2, hq2⟩ := wld_get (base := base) (adr := adr) (cA := cA) hb.1
  have hset := wld_set (h1 := rowI h j (va_cpy (hI h i) (hI h j) sp.toNatClampNeg dp.toNatClampNeg n.toNatClampNeg)) hb.1 hq2 rfl (mE_ints (h := rowI h j (va_cpy (hI h i) (hI h j) sp.toNatClampNeg dp.toNatClampNeg n.toNatClampNeg)) (n := n1) hb) (fun z hz => mE_other (i := j) rfl (by show va_up (hI h) j _ z = _; rw [va_up_ne _ _ hz]) rfl)
  rw [mE_ints ha] at hq
  rw [mE_ints hb] at hq2
  rw [X.hadr ha.1, X.hadr hb.1]
  have hr := X.hrm
  have hc8 := cat_up (adr := adr) S hS
  have hnf : nativeFrameWords "java/lang/System" "arraycopy" 5 + 11 ≤ 40 := by decide +kernel
  refine va_copyi (ty := .int) X.hx X.hb (X.hml.trans X.hlr.2.1.symm) X.hown (X.hts _ hl) (X.hts _ gw_nat) (X.hts _ gw_acs) (X.hts _ gw_sys) X.henv.1 X.hHL.1 wld_D X.hS q q2 0 0 hq hq2 tys0 tys0 rfl h1 h2 h3 h4 h5 (fun _ _ => rfl) (by omega) (by omega) hf (fun H1 locs1 hP _ hS1 => kk (X.hupd ?_ hS1 rfl rfl rfl))
  rw [← hset]
  show va_P D vwCl ((wld base adr cA h).set q2 (base + j, Sum.inl (cA 0, n1, Sum.inl (va_up (hI h) j _ j)))) H1
  rw [va_up_self]
  exact hP
theorem Ctx.objI {idx i : Nat} {S : List Value} (X : Ctx base adr cA D p Rm s m args meth c d μ L h h' H locs cells slots ls) (hl : Cond.methodLink μ.1.cls idx objectInit ∈ GW) (hd : 0 < d) (hS : (S.map fun v => v.category).sum ≤ 8) (hf : Fe μ pc (.invokespecial idx) 3)
    (kk : W p l e Rm s m args below meth c H locs cells slots Q (F0 m (pc + 3) ls (S.map (upV adr)))) : W p l e Rm s m args below meth c H locs cells slots Q (F0 m pc ls (.ref (adr i) :: S.map (upV adr))) := by
  have hr := X.hrm
  have hc8 := cat_up (adr := adr) S hS
  have hlr := lv_room (m := m) (pc := pc) (ls := ls) (rest := .ref (adr i) :: S.map (upV adr)) hc8
  exact W.objInit X.hx X.hb X.hown (X.hts _ hl) (X.hts _ gw_oi) (X.hts _ gw_oc) rfl (X.hlr.2.1.trans X.hml.symm) rfl hf (by omega) (by omega) kk
end CTX

section SIM
variable {l : Launch} {base : Nat} {adr : Nat → Nat} {cA : Nat → ClassId} {D : va_G}
theorem s_iconst : cl_iconst (X0 l base adr cA D) := by
  intro d μ pc L S h r h' n v hf hv hX
  obtain ⟨m1, k0⟩ := hX
  refine ⟨by first | exact m1 | exact ⟨Nat.le_trans (Nat.le_succ _) m1.1, Nat.le_trans (Nat.le_add_right _ _) m1.2.1, m1.2.2⟩, fun p e Rm s m args below meth c H locs cells slots ls CX => ?_⟩
  have k : ∀ {H : Heap} {locs : List Loc} {cells slots : Nat} {ls : Array Slot}, Ctx base adr cA D p Rm s m args meth c d μ L h h' H locs cells slots ls → W p l e Rm s m args below meth c H locs cells slots (MQ below (QcOf base adr cA D r h') args s (cells + (hz h' - hz h)) (slots + (hs h' - hs h)) (Af base)) (F0 m (pc + 1) ls (List.map (upV adr) (.int v :: S))) := fun {H locs cells slots ls} CX1 => k0 p e Rm s m args below meth c H locs cells slots ls CX1
  exact lv_iconst CX.hx CX.hb hf hv (k CX)
theorem s_bipush : cl_bipush (X0 l base adr cA D) := by
  intro d μ pc L S h r h' n v hf hv hX
  obtain ⟨m1, k0⟩ := hX
  refine ⟨by first | exact m1 | exact ⟨Nat.le_trans (Nat.le_succ _) m1.1, Nat.le_trans (Nat.le_add_right _ _) m1.2.1, m1.2.2⟩, fun p e Rm s m args below meth c H locs cells slots ls CX => ?_⟩
  have k : ∀ {H : Heap} {locs : List Loc} {cells slots : Nat} {ls : Array Slot}, Ctx base adr cA D p Rm s m args meth c d μ L h h' H locs cells slots ls → W p l e Rm s m args below meth c H locs cells slots (MQ below (QcOf base adr cA D r h') args s (cells + (hz h' - hz h)) (slots + (hs h' - hs h)) (Af base)) (F0 m (pc + 2) ls (List.map (upV adr) (.int v :: S))) := fun {H locs cells slots ls} CX1 => k0 p e Rm s m args below meth c H locs cells slots ls CX1
  exact lv_bipush CX.hx CX.hb hf hv (k CX)
theorem s_sipush : cl_sipush (X0 l base adr cA D) := by
  intro d μ pc L S h r h' n v hf hv hX
  obtain ⟨m1, k0⟩ := hX
  refine ⟨by first | exact m1 | exact ⟨Nat.le_trans (Nat.le_succ _) m1.1, Nat.le_trans (Nat.le_add_right _ _) m1.2.1, m1.2.2⟩, fun p e Rm s m args below meth c H locs cells slots ls CX => ?_⟩
  have k : ∀ {H : Heap} {locs : List Loc} {cells slots : Nat} {ls : Array Slot}, Ctx base adr cA D p Rm s m args meth c d μ L h h' H locs cells slots ls → W p l e Rm s m args below meth c H locs cells slots (MQ below (QcOf base adr cA D r h') args s (cells + (hz h' - hz h)) (slots + (hs h' - hs h)) (Af base)) (F0 m (pc + 3) ls (List.map (upV adr) (.int v :: S))) := fun {H locs cells slots ls} CX1 => k0 p e Rm s m args below meth c H locs cells slots ls CX1
  exact lv_sipush CX.hx CX.hb hf hv (k CX)
theorem s_ldc : cl_ldc (X0 l base adr cA D) := by
  intro d μ pc L S h r h' idx v hf hv hX
  obtain ⟨m1, k0⟩ := hX
  refine ⟨by first | exact m1 | exact ⟨Nat.le_trans (Nat.le_succ _) m1.1, Nat.le_trans (Nat.le_add_right _ _) m1.2.1, m1.2.2⟩, fun p e Rm s m args below meth c H locs cells slots ls CX => ?_⟩
  have k : ∀ {H : Heap} {locs : List Loc} {cells slots : Nat} {ls : Array Slot}, Ctx base adr cA D p Rm s m args meth c d μ L h h' H locs cells slots ls → W p l e Rm s m args below meth c H locs cells slots (MQ below (QcOf base adr cA D r h') args s (cells + (hz h' - hz h)) (slots + (hs h' - hs h)) (Af base)) (F0 m (pc + 2) ls (List.map (upV adr) (.int v :: S))) := fun {H locs cells slots ls} CX1 => k0 p e Rm s m args below meth c H locs cells slots ls CX1
  exact lv_ldc CX.hx CX.hb CX.hown (CX.hts _ hv) hf (k CX)
theorem s_ldcw : cl_ldcw (X0 l base adr cA D) := by
  intro d μ pc L S h r h' idx v hf hv hX
  obtain ⟨m1, k0⟩ := hX
  refine ⟨by first | exact m1 | exact ⟨Nat.le_trans (Nat.le_succ _) m1.1, Nat.le_trans (Nat.le_add_right _ _) m1.2.1, m1.2.2⟩, fun p e Rm s m args below meth c H locs cells slots ls CX => ?_⟩
  have k : ∀ {H : Heap} {locs : List Loc} {cells slots : Nat} {ls : Array Slot}, Ctx base adr cA D p Rm s m args meth c d μ L h h' H locs cells slots ls → W p l e Rm s m args below meth c H locs cells slots (MQ below (QcOf base adr cA D r h') args s (cells + (hz h' - hz h)) (slots + (hs h' - hs h)) (Af base)) (F0 m (pc + 3) ls (List.map (upV adr) (.int v :: S))) := fun {H locs cells slots ls} CX1 => k0 p e Rm s m args below meth c H locs cells slots ls CX1
  exact lv_ldcw CX.hx CX.hb CX.hown (CX.hts _ hv) hf (k CX)
theorem s_null : cl_null (X0 l base adr cA D) := by
  intro d μ pc L S h r h'  hf  hX
  obtain ⟨m1, k0⟩ := hX
  refine ⟨by first | exact m1 | exact ⟨Nat.le_trans (Nat.le_succ _) m1.1, Nat.le_trans (Nat.le_add_right _ _) m1.2.1, m1.2.2⟩, fun p e Rm s m args below meth c H locs cells slots ls CX => ?_⟩
  have k : ∀ {H : Heap} {locs : List Loc} {cells slots : Nat} {ls : Array Slot}, Ctx base adr cA D p Rm s m args meth c d μ L h h' H locs cells slots ls → W p l e Rm s m args below meth c H locs cells slots (MQ below (QcOf base adr cA D r h') args s (cells + (hz h' - hz h)) (slots + (hs h' - hs h)) (Af base)) (F0 m (pc + 1) ls (List.map (upV adr) (.null :: S))) := fun {H locs cells slots ls} CX1 => k0 p e Rm s m args below meth c H locs cells slots ls CX1
  exact lv_null CX.hx CX.hb hf (k CX)
theorem s_ldcS : cl_ldcS (X0 l base adr cA D) := by
  intro d μ pc L S h r h' idx tx j hf hv hX
  obtain ⟨m1, k0⟩ := hX
  refine ⟨by first | exact m1 | exact ⟨Nat.le_trans (Nat.le_succ _) m1.1, Nat.le_trans (Nat.le_add_right _ _) m1.2.1, m1.2.2⟩, fun p e Rm s m args below meth c H locs cells slots ls CX => ?_⟩
  have k : ∀ {H : Heap} {locs : List Loc} {cells slots : Nat} {ls : Array Slot}, Ctx base adr cA D p Rm s m args meth c d μ L h h' H locs cells slots ls → W p l e Rm s m args below meth c H locs cells slots (MQ below (QcOf base adr cA D r h') args s (cells + (hz h' - hz h)) (slots + (hs h' - hs h)) (Af base)) (F0 m (pc + 2) ls (List.map (upV adr) (.ref (1000000 + j) :: S))) := fun {H locs cells slots ls} CX1 => k0 p e Rm s m args below meth c H locs cells slots ls CX1
  exact va_ldcS CX.hx CX.hb CX.hown (CX.henv.2.2.2.1 _ hv) hf (k CX)
theorem s_iload_n : cl_iload_n (X0 l base adr cA D) := by
  intro d μ pc L S h r h' i x hf hl hX
  obtain ⟨m1, k0⟩ := hX
  refine ⟨by first | exact m1 | exact ⟨Nat.le_trans (Nat.le_succ _) m1.1, Nat.le_trans (Nat.le_add_right _ _) m1.2.1, m1.2.2⟩, fun p e Rm s m args below meth c H locs cells slots ls CX => ?_⟩
  have k : ∀ {H : Heap} {locs : List Loc} {cells slots : Nat} {ls : Array Slot}, Ctx base adr cA D p Rm s m args meth c d μ L h h' H locs cells slots ls → W p l e Rm s m args below meth c H locs cells slots (MQ below (QcOf base adr cA D r h') args s (cells + (hz h' - hz h)) (slots + (hs h' - hs h)) (Af base)) (F0 m (pc + 1) ls (List.map (upV adr) (.int x :: S))) := fun {H locs cells slots ls} CX1 => k0 p e Rm s m args below meth c H locs cells slots ls CX1
  exact lv_iload_n CX.hx CX.hb hf rfl (CX.hlr.2.2.2 _ _ hl).1 (k CX)
theorem s_iload : cl_iload (X0 l base adr cA D) := by
  intro d μ pc L S h r h' i x hf hl hX
  obtain ⟨m1, k0⟩ := hX
  refine ⟨by first | exact m1 | exact ⟨Nat.le_trans (Nat.le_succ _) m1.1, Nat.le_trans (Nat.le_add_right _ _) m1.2.1, m1.2.2⟩, fun p e Rm s m args below meth c H locs cells slots ls CX => ?_⟩
  have k : ∀ {H : Heap} {locs : List Loc} {cells slots : Nat} {ls : Array Slot}, Ctx base adr cA D p Rm s m args meth c d μ L h h' H locs cells slots ls → W p l e Rm s m args below meth c H locs cells slots (MQ below (QcOf base adr cA D r h') args s (cells + (hz h' - hz h)) (slots + (hs h' - hs h)) (Af base)) (F0 m (pc + 2) ls (List.map (upV adr) (.int x :: S))) := fun {H locs cells slots ls} CX1 => k0 p e Rm s m args below meth c H locs cells slots ls CX1
  exact lv_iload CX.hx CX.hb hf (CX.hlr.2.2.2 _ _ hl).1 (k CX)
theorem s_aload_n : cl_aload_n (X0 l base adr cA D) := by
  intro d μ pc L S h r h' i x hf hl hX
  obtain ⟨m1, k0⟩ := hX
  refine ⟨by first | exact m1 | exact ⟨Nat.le_trans (Nat.le_succ _) m1.1, Nat.le_trans (Nat.le_add_right _ _) m1.2.1, m1.2.2⟩, fun p e Rm s m args below meth c H locs cells slots ls CX => ?_⟩
  have k : ∀ {H : Heap} {locs : List Loc} {cells slots : Nat} {ls : Array Slot}, Ctx base adr cA D p Rm s m args meth c d μ L h h' H locs cells slots ls → W p l e Rm s m args below meth c H locs cells slots (MQ below (QcOf base adr cA D r h') args s (cells + (hz h' - hz h)) (slots + (hs h' - hs h)) (Af base)) (F0 m (pc + 1) ls (List.map (upV adr) (.ref x :: S))) := fun {H locs cells slots ls} CX1 => k0 p e Rm s m args below meth c H locs cells slots ls CX1
  exact lv_aload_n CX.hx CX.hb hf rfl (CX.hlr.2.2.2 _ _ hl).1 (k CX)
theorem s_aload : cl_aload (X0 l base adr cA D) := by
  intro d μ pc L S h r h' i x hf hl hX
  obtain ⟨m1, k0⟩ := hX
  refine ⟨by first | exact m1 | exact ⟨Nat.le_trans (Nat.le_succ _) m1.1, Nat.le_trans (Nat.le_add_right _ _) m1.2.1, m1.2.2⟩, fun p e Rm s m args below meth c H locs cells slots ls CX => ?_⟩
  have k : ∀ {H : Heap} {locs : List Loc} {cells slots : Nat} {ls : Array Slot}, Ctx base adr cA D p Rm s m args meth c d μ L h h' H locs cells slots ls → W p l e Rm s m args below meth c H locs cells slots (MQ below (QcOf base adr cA D r h') args s (cells + (hz h' - hz h)) (slots + (hs h' - hs h)) (Af base)) (F0 m (pc + 2) ls (List.map (upV adr) (.ref x :: S))) := fun {H locs cells slots ls} CX1 => k0 p e Rm s m args below meth c H locs cells slots ls CX1
  exact lv_aload CX.hx CX.hb hf (CX.hlr.2.2.2 _ _ hl).1 (k CX)
theorem s_aload_nN : cl_aload_nN (X0 l base adr cA D) := by
  intro d μ pc L S h r h' i hf hl hX
  obtain ⟨m1, k0⟩ := hX
  refine ⟨by first | exact m1 | exact ⟨Nat.le_trans (Nat.le_succ _) m1.1, Nat.le_trans (Nat.le_add_right _ _) m1.2.1, m1.2.2⟩, fun p e Rm s m args below meth c H locs cells slots ls CX => ?_⟩
  have k : ∀ {H : Heap} {locs : List Loc} {cells slots : Nat} {ls : Array Slot}, Ctx base adr cA D p Rm s m args meth c d μ L h h' H locs cells slots ls → W p l e Rm s m args below meth c H locs cells slots (MQ below (QcOf base adr cA D r h') args s (cells + (hz h' - hz h)) (slots + (hs h' - hs h)) (Af base)) (F0 m (pc + 1) ls (List.map (upV adr) (.null :: S))) := fun {H locs cells slots ls} CX1 => k0 p e Rm s m args below meth c H locs cells slots ls CX1
  exact lv_aload_nN CX.hx CX.hb hf rfl (CX.hlr.2.2.2 _ _ hl).1 (k CX)
theorem s_aloadN : cl_aloadN (X0 l base adr cA D) := by
  intro d μ pc L S h r h' i hf hl hX
  obtain ⟨m1, k0⟩ := hX
  refine ⟨by first | exact m1 | exact ⟨Nat.le_trans (Nat.le_succ _) m1.1, Nat.le_trans (Nat.le_add_right _ _) m1.2.1, m1.2.2⟩, fun p e Rm s m args below meth c H locs cells slots ls CX => ?_⟩
  have k : ∀ {H : Heap} {locs : List Loc} {cells slots : Nat} {ls : Array Slot}, Ctx base adr cA D p Rm s m args meth c d μ L h h' H locs cells slots ls → W p l e Rm s m args below meth c H locs cells slots (MQ below (QcOf base adr cA D r h') args s (cells + (hz h' - hz h)) (slots + (hs h' - hs h)) (Af base)) (F0 m (pc + 2) ls (List.map (upV adr) (.null :: S))) := fun {H locs cells slots ls} CX1 => k0 p e Rm s m args below meth c H locs cells slots ls CX1
  exact lv_aloadN CX.hx CX.hb hf (CX.hlr.2.2.2 _ _ hl).1 (k CX)
theorem s_istore_n : cl_istore_n (X0 l base adr cA D) := by
  intro d μ pc L S h r h' i x hf hi hX
  obtain ⟨m1, k0⟩ := hX
  refine ⟨by first | exact m1 | exact ⟨Nat.le_trans (Nat.le_succ _) m1.1, Nat.le_trans (Nat.le_add_right _ _) m1.2.1, m1.2.2⟩, fun p e Rm s m args below meth c H locs cells slots ls CX => ?_⟩
  have k : ∀ {H : Heap} {locs : List Loc} {cells slots : Nat} {ls : Array Slot}, Ctx base adr cA D p Rm s m args meth c d μ (L.set (i : Nat) (some (.int x))) h h' H locs cells slots ls → W p l e Rm s m args below meth c H locs cells slots (MQ below (QcOf base adr cA D r h') args s (cells + (hz h' - hz h)) (slots + (hs h' - hs h)) (Af base)) (F0 m (pc + 1) ls (List.map (upV adr) S)) := fun {H locs cells slots ls} CX1 => k0 p e Rm s m args below meth c H locs cells slots ls CX1
  exact lv_istore_n CX.hx CX.hb hf rfl (lr_has CX.hlr) (by rw [← CX.hlr.1]; exact hi) rfl (fun ls1 hl1 => k (CX.loc (lr_set (v := (.int x)) CX.hlr hi rfl hl1)))
theorem s_istore : cl_istore (X0 l base adr cA D) := by
  intro d μ pc L S h r h' i x hf hi hX
  obtain ⟨m1, k0⟩ := hX
  refine ⟨by first | exact m1 | exact ⟨Nat.le_trans (Nat.le_succ _) m1.1, Nat.le_trans (Nat.le_add_right _ _) m1.2.1, m1.2.2⟩, fun p e Rm s m args below meth c H locs cells slots ls CX => ?_⟩
  have k : ∀ {H : Heap} {locs : List Loc} {cells slots : Nat} {ls : Array Slot}, Ctx base adr cA D p Rm s m args meth c d μ (L.set i (some (.int x))) h h' H locs cells slots ls → W p l e Rm s m args below meth c H locs cells slots (MQ below (QcOf base adr cA D r h') args s (cells + (hz h' - hz h)) (slots + (hs h' - hs h)) (Af base)) (F0 m (pc + 2) ls (List.map (upV adr) S)) := fun {H locs cells slots ls} CX1 => k0 p e Rm s m args below meth c H locs cells slots ls CX1
  exact lv_istore CX.hx CX.hb hf (lr_has CX.hlr) (by rw [← CX.hlr.1]; exact hi) rfl (fun ls1 hl1 => k (CX.loc (lr_set (v := (.int x)) CX.hlr hi rfl hl1)))
theorem s_astore_n : cl_astore_n (X0 l base adr cA D) := by
  intro d μ pc L S h r h' i x hf hi hX
  obtain ⟨m1, k0⟩ := hX
  refine ⟨by first | exact m1 | exact ⟨Nat.le_trans (Nat.le_succ _) m1.1, Nat.le_trans (Nat.le_add_right _ _) m1.2.1, m1.2.2⟩, fun p e Rm s m args below meth c H locs cells slots ls CX => ?_⟩
  have k : ∀ {H : Heap} {locs : List Loc} {cells slots : Nat} {ls : Array Slot}, Ctx base adr cA D p Rm s m args meth c d μ (L.set (i : Nat) (some (.ref x))) h h' H locs cells slots ls → W p l e Rm s m args below meth c H locs cells slots (MQ below (QcOf base adr cA D r h') args s (cells + (hz h' - hz h)) (slots + (hs h' - hs h)) (Af base)) (F0 m (pc + 1) ls (List.map (upV adr) S)) := fun {H locs cells slots ls} CX1 => k0 p e Rm s m args below meth c H locs cells slots ls CX1
  exact lv_astore_n CX.hx CX.hb hf rfl (lr_has CX.hlr) (by rw [← CX.hlr.1]; exact hi) rfl (fun ls1 hl1 => k (CX.loc (lr_set (v := (.ref x)) CX.hlr hi rfl hl1)))
theorem s_astore : cl_astore (X0 l base adr cA D) := by
  intro d μ pc L S h r h' i x hf hi hX
  obtain ⟨m1, k0⟩ := hX
  refine ⟨by first | exact m1 | exact ⟨Nat.le_trans (Nat.le_succ _) m1.1, Nat.le_trans (Nat.le_add_right _ _) m1.2.1, m1.2.2⟩, fun p e Rm s m args below meth c H locs cells slots ls CX => ?_⟩
  have k : ∀ {H : Heap} {locs : List Loc} {cells slots : Nat} {ls : Array Slot}, Ctx base adr cA D p Rm s m args meth c d μ (L.set i (some (.ref x))) h h' H locs cells slots ls → W p l e Rm s m args below meth c H locs cells slots (MQ below (QcOf base adr cA D r h') args s (cells + (hz h' - hz h)) (slots + (hs h' - hs h)) (Af base)) (F0 m (pc + 2) ls (List.map (upV adr) S)) := fun {H locs cells slots ls} CX1 => k0 p e Rm s m args below meth c H locs cells slots ls CX1
  exact lv_astore CX.hx CX.hb hf (lr_has CX.hlr) (by rw [← CX.hlr.1]; exact hi) rfl (fun ls1 hl1 => k (CX.loc (lr_set (v := (.ref x)) CX.hlr hi rfl hl1)))
theorem s_astore_nN : cl_astore_nN (X0 l base adr cA D) := by
  intro d μ pc L S h r h' i hf hi hX
  obtain ⟨m1, k0⟩ := hX
  refine ⟨by first | exact m1 | exact ⟨Nat.le_trans (Nat.le_succ _) m1.1, Nat.le_trans (Nat.le_add_right _ _) m1.2.1, m1.2.2⟩, fun p e Rm s m args below meth c H locs cells slots ls CX => ?_⟩
  have k : ∀ {H : Heap} {locs : List Loc} {cells slots : Nat} {ls : Array Slot}, Ctx base adr cA D p Rm s m args meth c d μ (L.set (i : Nat) (some .null)) h h' H locs cells slots ls → W p l e Rm s m args below meth c H locs cells slots (MQ below (QcOf base adr cA D r h') args s (cells + (hz h' - hz h)) (slots + (hs h' - hs h)) (Af base)) (F0 m (pc + 1) ls (List.map (upV adr) S)) := fun {H locs cells slots ls} CX1 => k0 p e Rm s m args below meth c H locs cells slots ls CX1
  exact lv_astore_nN CX.hx CX.hb hf rfl (lr_has CX.hlr) (by rw [← CX.hlr.1]; exact hi) rfl (fun ls1 hl1 => k (CX.loc (lr_set (v := .null) CX.hlr hi rfl hl1)))
theorem s_astoreN : cl_astoreN (X0 l base adr cA D) := by
  intro d μ pc L S h r h' i hf hi hX
  obtain ⟨m1, k0⟩ := hX
  refine ⟨by first | exact m1 | exact ⟨Nat.le_trans (Nat.le_succ _) m1.1, Nat.le_trans (Nat.le_add_right _ _) m1.2.1, m1.2.2⟩, fun p e Rm s m args below meth c H locs cells slots ls CX => ?_⟩
  have k : ∀ {H : Heap} {locs : List Loc} {cells slots : Nat} {ls : Array Slot}, Ctx base adr cA D p Rm s m args meth c d μ (L.set i (some .null)) h h' H locs cells slots ls → W p l e Rm s m args below meth c H locs cells slots (MQ below (QcOf base adr cA D r h') args s (cells + (hz h' - hz h)) (slots + (hs h' - hs h)) (Af base)) (F0 m (pc + 2) ls (List.map (upV adr) S)) := fun {H locs cells slots ls} CX1 => k0 p e Rm s m args below meth c H locs cells slots ls CX1
  exact lv_astoreN CX.hx CX.hb hf (lr_has CX.hlr) (by rw [← CX.hlr.1]; exact hi) rfl (fun ls1 hl1 => k (CX.loc (lr_set (v := .null) CX.hlr hi rfl hl1)))
theorem s_iinc : cl_iinc (X0 l base adr cA D) := by
  intro d μ pc L S h r h' i n x v hf hl hv hX
  obtain ⟨m1, k0⟩ := hX
  refine ⟨by first | exact m1 | exact ⟨Nat.le_trans (Nat.le_succ _) m1.1, Nat.le_trans (Nat.le_add_right _ _) m1.2.1, m1.2.2⟩, fun p e Rm s m args below meth c H locs cells slots ls CX => ?_⟩
  have k : ∀ {H : Heap} {locs : List Loc} {cells slots : Nat} {ls : Array Slot}, Ctx base adr cA D p Rm s m args meth c d μ (L.set i (some (.int (x + v)))) h h' H locs cells slots ls → W p l e Rm s m args below meth c H locs cells slots (MQ below (QcOf base adr cA D r h') args s (cells + (hz h' - hz h)) (slots + (hs h' - hs h)) (Af base)) (F0 m (pc + 3) ls (List.map (upV adr) S)) := fun {H locs cells slots ls} CX1 => k0 p e Rm s m args below meth c H locs cells slots ls CX1
  obtain ⟨kk, hkk⟩ := List.getElem?_of_mem (lr_mem (adr := adr) (nL := μ.2.2.1) CX.hlr hl)
  exact lv_iinc CX.hx CX.hb hf (lr_has CX.hlr) hkk (by rw [hv]) (by rw [← CX.hlr.1]; exact (List.getElem?_eq_some_iff.mp hl).1) rfl (fun ls1 hl1 => k (CX.loc (lr_set (v := .int (x + v)) CX.hlr (List.getElem?_eq_some_iff.mp hl).1 rfl hl1)))
theorem s_iadd : cl_iadd (X0 l base adr cA D) := by
  intro d μ pc L S h r h' x y hf  hX
  obtain ⟨m1, k0⟩ := hX
  refine ⟨by first | exact m1 | exact ⟨Nat.le_trans (Nat.le_succ _) m1.1, Nat.le_trans (Nat.le_add_right _ _) m1.2.1, m1.2.2⟩, fun p e Rm s m args below meth c H locs cells slots ls CX => ?_⟩
  have k : ∀ {H : Heap} {locs : List Loc} {cells slots : Nat} {ls : Array Slot}, Ctx base adr cA D p Rm s m args meth c d μ L h h' H locs cells slots ls → W p l e Rm s m args below meth c H locs cells slots (MQ below (QcOf base adr cA D r h') args s (cells + (hz h' - hz h)) (slots + (hs h' - hs h)) (Af base)) (F0 m (pc + 1) ls (List.map (upV adr) (.int (x + y) :: S))) := fun {H locs cells slots ls} CX1 => k0 p e Rm s m args below meth c H locs cells slots ls CX1
  exact lv_iadd CX.hx CX.hb hf (k CX)
theorem s_isub : cl_isub (X0 l base adr cA D) := by
  intro d μ pc L S h r h' x y hf  hX
  obtain ⟨m1, k0⟩ := hX
  refine ⟨by first | exact m1 | exact ⟨Nat.le_trans (Nat.le_succ _) m1.1, Nat.le_trans (Nat.le_add_right _ _) m1.2.1, m1.2.2⟩, fun p e Rm s m args below meth c H locs cells slots ls CX => ?_⟩
  have k : ∀ {H : Heap} {locs : List Loc} {cells slots : Nat} {ls : Array Slot}, Ctx base adr cA D p Rm s m args meth c d μ L h h' H locs cells slots ls → W p l e Rm s m args below meth c H locs cells slots (MQ below (QcOf base adr cA D r h') args s (cells + (hz h' - hz h)) (slots + (hs h' - hs h)) (Af base)) (F0 m (pc + 1) ls (List.map (upV adr) (.int (x - y) :: S))) := fun {H locs cells slots ls} CX1 => k0 p e Rm s m args below meth c H locs cells slots ls CX1
  exact lv_isub CX.hx CX.hb hf (k CX)
theorem s_imul : cl_imul (X0 l base adr cA D) := by
  intro d μ pc L S h r h' x y hf  hX
  obtain ⟨m1, k0⟩ := hX
  refine ⟨by first | exact m1 | exact ⟨Nat.le_trans (Nat.le_succ _) m1.1, Nat.le_trans (Nat.le_add_right _ _) m1.2.1, m1.2.2⟩, fun p e Rm s m args below meth c H locs cells slots ls CX => ?_⟩
  have k : ∀ {H : Heap} {locs : List Loc} {cells slots : Nat} {ls : Array Slot}, Ctx base adr cA D p Rm s m args meth c d μ L h h' H locs cells slots ls → W p l e Rm s m args below meth c H locs cells slots (MQ below (QcOf base adr cA D r h') args s (cells + (hz h' - hz h)) (slots + (hs h' - hs h)) (Af base)) (F0 m (pc + 1) ls (List.map (upV adr) (.int (x * y) :: S))) := fun {H locs cells slots ls} CX1 => k0 p e Rm s m args below meth c H locs cells slots ls CX1
  exact lv_imul CX.hx CX.hb hf (k CX)
theorem s_iand : cl_iand (X0 l base adr cA D) := by
  intro d μ pc L S h r h' x y hf  hX
  obtain ⟨m1, k0⟩ := hX
  refine ⟨by first | exact m1 | exact ⟨Nat.le_trans (Nat.le_succ _) m1.1, Nat.le_trans (Nat.le_add_right _ _) m1.2.1, m1.2.2⟩, fun p e Rm s m args below meth c H locs cells slots ls CX => ?_⟩
  have k : ∀ {H : Heap} {locs : List Loc} {cells slots : Nat} {ls : Array Slot}, Ctx base adr cA D p Rm s m args meth c d μ L h h' H locs cells slots ls → W p l e Rm s m args below meth c H locs cells slots (MQ below (QcOf base adr cA D r h') args s (cells + (hz h' - hz h)) (slots + (hs h' - hs h)) (Af base)) (F0 m (pc + 1) ls (List.map (upV adr) (.int (x &&& y) :: S))) := fun {H locs cells slots ls} CX1 => k0 p e Rm s m args below meth c H locs cells slots ls CX1
  exact lv_iand CX.hx CX.hb hf (k CX)
theorem s_ior : cl_ior (X0 l base adr cA D) := by
  intro d μ pc L S h r h' x y hf  hX
  obtain ⟨m1, k0⟩ := hX
  refine ⟨by first | exact m1 | exact ⟨Nat.le_trans (Nat.le_succ _) m1.1, Nat.le_trans (Nat.le_add_right _ _) m1.2.1, m1.2.2⟩, fun p e Rm s m args below meth c H locs cells slots ls CX => ?_⟩
  have k : ∀ {H : Heap} {locs : List Loc} {cells slots : Nat} {ls : Array Slot}, Ctx base adr cA D p Rm s m args meth c d μ L h h' H locs cells slots ls → W p l e Rm s m args below meth c H locs cells slots (MQ below (QcOf base adr cA D r h') args s (cells + (hz h' - hz h)) (slots + (hs h' - hs h)) (Af base)) (F0 m (pc + 1) ls (List.map (upV adr) (.int (x ||| y) :: S))) := fun {H locs cells slots ls} CX1 => k0 p e Rm s m args below meth c H locs cells slots ls CX1
  exact lv_ior CX.hx CX.hb hf (k CX)
theorem s_ishl : cl_ishl (X0 l base adr cA D) := by
  intro d μ pc L S h r h' x y hf  hX
  obtain ⟨m1, k0⟩ := hX
  refine ⟨by first | exact m1 | exact ⟨Nat.le_trans (Nat.le_succ _) m1.1, Nat.le_trans (Nat.le_add_right _ _) m1.2.1, m1.2.2⟩, fun p e Rm s m args below meth c H locs cells slots ls CX => ?_⟩
  have k : ∀ {H : Heap} {locs : List Loc} {cells slots : Nat} {ls : Array Slot}, Ctx base adr cA D p Rm s m args meth c d μ L h h' H locs cells slots ls → W p l e Rm s m args below meth c H locs cells slots (MQ below (QcOf base adr cA D r h') args s (cells + (hz h' - hz h)) (slots + (hs h' - hs h)) (Af base)) (F0 m (pc + 1) ls (List.map (upV adr) (.int (x <<< (y &&& 31)) :: S))) := fun {H locs cells slots ls} CX1 => k0 p e Rm s m args below meth c H locs cells slots ls CX1
  exact lv_ishl CX.hx CX.hb hf (k CX)
theorem s_ishr : cl_ishr (X0 l base adr cA D) := by
  intro d μ pc L S h r h' x y hf  hX
  obtain ⟨m1, k0⟩ := hX
  refine ⟨by first | exact m1 | exact ⟨Nat.le_trans (Nat.le_succ _) m1.1, Nat.le_trans (Nat.le_add_right _ _) m1.2.1, m1.2.2⟩, fun p e Rm s m args below meth c H locs cells slots ls CX => ?_⟩
  have k : ∀ {H : Heap} {locs : List Loc} {cells slots : Nat} {ls : Array Slot}, Ctx base adr cA D p Rm s m args meth c d μ L h h' H locs cells slots ls → W p l e Rm s m args below meth c H locs cells slots (MQ below (QcOf base adr cA D r h') args s (cells + (hz h' - hz h)) (slots + (hs h' - hs h)) (Af base)) (F0 m (pc + 1) ls (List.map (upV adr) (.int (x >>> (y &&& 31)) :: S))) := fun {H locs cells slots ls} CX1 => k0 p e Rm s m args below meth c H locs cells slots ls CX1
  exact lv_ishr CX.hx CX.hb hf (k CX)
theorem s_idiv : cl_idiv (X0 l base adr cA D) := by
  intro d μ pc L S h r h' x y hf hne hX
  obtain ⟨m1, k0⟩ := hX
  refine ⟨by first | exact m1 | exact ⟨Nat.le_trans (Nat.le_succ _) m1.1, Nat.le_trans (Nat.le_add_right _ _) m1.2.1, m1.2.2⟩, fun p e Rm s m args below meth c H locs cells slots ls CX => ?_⟩
  have k : ∀ {H : Heap} {locs : List Loc} {cells slots : Nat} {ls : Array Slot}, Ctx base adr cA D p Rm s m args meth c d μ L h h' H locs cells slots ls → W p l e Rm s m args below meth c H locs cells slots (MQ below (QcOf base adr cA D r h') args s (cells + (hz h' - hz h)) (slots + (hs h' - hs h)) (Af base)) (F0 m (pc + 1) ls (List.map (upV adr) (.int (x / y) :: S))) := fun {H locs cells slots ls} CX1 => k0 p e Rm s m args below meth c H locs cells slots ls CX1
  exact lv_idiv CX.hx CX.hb hf hne (k CX)
theorem s_irem : cl_irem (X0 l base adr cA D) := by
  intro d μ pc L S h r h' x y hf hne hX
  obtain ⟨m1, k0⟩ := hX
  refine ⟨by first | exact m1 | exact ⟨Nat.le_trans (Nat.le_succ _) m1.1, Nat.le_trans (Nat.le_add_right _ _) m1.2.1, m1.2.2⟩, fun p e Rm s m args below meth c H locs cells slots ls CX => ?_⟩
  have k : ∀ {H : Heap} {locs : List Loc} {cells slots : Nat} {ls : Array Slot}, Ctx base adr cA D p Rm s m args meth c d μ L h h' H locs cells slots ls → W p l e Rm s m args below meth c H locs cells slots (MQ below (QcOf base adr cA D r h') args s (cells + (hz h' - hz h)) (slots + (hs h' - hs h)) (Af base)) (F0 m (pc + 1) ls (List.map (upV adr) (.int (x - x / y * y) :: S))) := fun {H locs cells slots ls} CX1 => k0 p e Rm s m args below meth c H locs cells slots ls CX1
  exact lv_irem CX.hx CX.hb hf hne (k CX)
theorem s_ineg : cl_ineg (X0 l base adr cA D) := by
  intro d μ pc L S h r h' x hf  hX
  obtain ⟨m1, k0⟩ := hX
  refine ⟨by first | exact m1 | exact ⟨Nat.le_trans (Nat.le_succ _) m1.1, Nat.le_trans (Nat.le_add_right _ _) m1.2.1, m1.2.2⟩, fun p e Rm s m args below meth c H locs cells slots ls CX => ?_⟩
  have k : ∀ {H : Heap} {locs : List Loc} {cells slots : Nat} {ls : Array Slot}, Ctx base adr cA D p Rm s m args meth c d μ L h h' H locs cells slots ls → W p l e Rm s m args below meth c H locs cells slots (MQ below (QcOf base adr cA D r h') args s (cells + (hz h' - hz h)) (slots + (hs h' - hs h)) (Af base)) (F0 m (pc + 1) ls (List.map (upV adr) (.int (-x) :: S))) := fun {H locs cells slots ls} CX1 => k0 p e Rm s m args below meth c H locs cells slots ls CX1
  exact lv_ineg CX.hx CX.hb hf (k CX)
theorem s_iushr : cl_iushr (X0 l base adr cA D) := by
  intro d μ pc L S h r h' x y hf  hX
  obtain ⟨m1, k0⟩ := hX
  refine ⟨by first | exact m1 | exact ⟨Nat.le_trans (Nat.le_succ _) m1.1, Nat.le_trans (Nat.le_add_right _ _) m1.2.1, m1.2.2⟩, fun p e Rm s m args below meth c H locs cells slots ls CX => ?_⟩
  have k : ∀ {H : Heap} {locs : List Loc} {cells slots : Nat} {ls : Array Slot}, Ctx base adr cA D p Rm s m args meth c d μ L h h' H locs cells slots ls → W p l e Rm s m args below meth c H locs cells slots (MQ below (QcOf base adr cA D r h') args s (cells + (hz h' - hz h)) (slots + (hs h' - hs h)) (Af base)) (F0 m (pc + 1) ls (List.map (upV adr) (.int (x.toUInt32 >>> (y.toUInt32 &&& Int32.toUInt32 31)).toInt32 :: S))) := fun {H locs cells slots ls} CX1 => k0 p e Rm s m args below meth c H locs cells slots ls CX1
  exact lv_iushr CX.hx CX.hb hf rfl (k CX)
theorem s_i2l : cl_i2l (X0 l base adr cA D) := by
  intro d μ pc L S h r h' x hf  hX
  obtain ⟨m1, k0⟩ := hX
  refine ⟨by first | exact m1 | exact ⟨Nat.le_trans (Nat.le_succ _) m1.1, Nat.le_trans (Nat.le_add_right _ _) m1.2.1, m1.2.2⟩, fun p e Rm s m args below meth c H locs cells slots ls CX => ?_⟩
  have k : ∀ {H : Heap} {locs : List Loc} {cells slots : Nat} {ls : Array Slot}, Ctx base adr cA D p Rm s m args meth c d μ L h h' H locs cells slots ls → W p l e Rm s m args below meth c H locs cells slots (MQ below (QcOf base adr cA D r h') args s (cells + (hz h' - hz h)) (slots + (hs h' - hs h)) (Af base)) (F0 m (pc + 1) ls (List.map (upV adr) (.long x.toInt64 :: S))) := fun {H locs cells slots ls} CX1 => k0 p e Rm s m args below meth c H locs cells slots ls CX1
  exact lv_i2l CX.hx CX.hb hf rfl (k CX)
theorem s_ladd : cl_ladd (X0 l base adr cA D) := by
  intro d μ pc L S h r h' x y hf  hX
  obtain ⟨m1, k0⟩ := hX
  refine ⟨by first | exact m1 | exact ⟨Nat.le_trans (Nat.le_succ _) m1.1, Nat.le_trans (Nat.le_add_right _ _) m1.2.1, m1.2.2⟩, fun p e Rm s m args below meth c H locs cells slots ls CX => ?_⟩
  have k : ∀ {H : Heap} {locs : List Loc} {cells slots : Nat} {ls : Array Slot}, Ctx base adr cA D p Rm s m args meth c d μ L h h' H locs cells slots ls → W p l e Rm s m args below meth c H locs cells slots (MQ below (QcOf base adr cA D r h') args s (cells + (hz h' - hz h)) (slots + (hs h' - hs h)) (Af base)) (F0 m (pc + 1) ls (List.map (upV adr) (.long (x + y) :: S))) := fun {H locs cells slots ls} CX1 => k0 p e Rm s m args below meth c H locs cells slots ls CX1
  exact lv_ladd CX.hx CX.hb hf (k CX)
theorem s_lcmp : cl_lcmp (X0 l base adr cA D) := by
  intro d μ pc L S h r h' x y hf  hX
  obtain ⟨m1, k0⟩ := hX
  refine ⟨by first | exact m1 | exact ⟨Nat.le_trans (Nat.le_succ _) m1.1, Nat.le_trans (Nat.le_add_right _ _) m1.2.1, m1.2.2⟩, fun p e Rm s m args below meth c H locs cells slots ls CX => ?_⟩
  have k : ∀ {H : Heap} {locs : List Loc} {cells slots : Nat} {ls : Array Slot}, Ctx base adr cA D p Rm s m args meth c d μ L h h' H locs cells slots ls → W p l e Rm s m args below meth c H locs cells slots (MQ below (QcOf base adr cA D r h') args s (cells + (hz h' - hz h)) (slots + (hs h' - hs h)) (Af base)) (F0 m (pc + 1) ls (List.map (upV adr) (.int (lg_cmp x y) :: S))) := fun {H locs cells slots ls} CX1 => k0 p e Rm s m args below meth c H locs cells slots ls CX1
  exact W.lcmp CX.hx CX.hb hf (k CX)
theorem s_i2b : cl_i2b (X0 l base adr cA D) := by
  intro d μ pc L S h r h' x hf  hX
  obtain ⟨m1, k0⟩ := hX
  refine ⟨by first | exact m1 | exact ⟨Nat.le_trans (Nat.le_succ _) m1.1, Nat.le_trans (Nat.le_add_right _ _) m1.2.1, m1.2.2⟩, fun p e Rm s m args below meth c H locs cells slots ls CX => ?_⟩
  have k : ∀ {H : Heap} {locs : List Loc} {cells slots : Nat} {ls : Array Slot}, Ctx base adr cA D p Rm s m args meth c d μ L h h' H locs cells slots ls → W p l e Rm s m args below meth c H locs cells slots (MQ below (QcOf base adr cA D r h') args s (cells + (hz h' - hz h)) (slots + (hs h' - hs h)) (Af base)) (F0 m (pc + 1) ls (List.map (upV adr) (.int x.toInt8.toInt32 :: S))) := fun {H locs cells slots ls} CX1 => k0 p e Rm s m args below meth c H locs cells slots ls CX1
  exact lv_i2b CX.hx CX.hb hf rfl (k CX)
theorem s_i2s : cl_i2s (X0 l base adr cA D) := by
  intro d μ pc L S h r h' x hf  hX
  obtain ⟨m1, k0⟩ := hX
  refine ⟨by first | exact m1 | exact ⟨Nat.le_trans (Nat.le_succ _) m1.1, Nat.le_trans (Nat.le_add_right _ _) m1.2.1, m1.2.2⟩, fun p e Rm s m args below meth c H locs cells slots ls CX => ?_⟩
  have k : ∀ {H : Heap} {locs : List Loc} {cells slots : Nat} {ls : Array Slot}, Ctx base adr cA D p Rm s m args meth c d μ L h h' H locs cells slots ls → W p l e Rm s m args below meth c H locs cells slots (MQ below (QcOf base adr cA D r h') args s (cells + (hz h' - hz h)) (slots + (hs h' - hs h)) (Af base)) (F0 m (pc + 1) ls (List.map (upV adr) (.int x.toInt16.toInt32 :: S))) := fun {H locs cells slots ls} CX1 => k0 p e Rm s m args below meth c H locs cells slots ls CX1
  exact lv_i2s CX.hx CX.hb hf rfl (k CX)
theorem s_i2c : cl_i2c (X0 l base adr cA D) := by
  intro d μ pc L S h r h' x hf  hX
  obtain ⟨m1, k0⟩ := hX
  refine ⟨by first | exact m1 | exact ⟨Nat.le_trans (Nat.le_succ _) m1.1, Nat.le_trans (Nat.le_add_right _ _) m1.2.1, m1.2.2⟩, fun p e Rm s m args below meth c H locs cells slots ls CX => ?_⟩
  have k : ∀ {H : Heap} {locs : List Loc} {cells slots : Nat} {ls : Array Slot}, Ctx base adr cA D p Rm s m args meth c d μ L h h' H locs cells slots ls → W p l e Rm s m args below meth c H locs cells slots (MQ below (QcOf base adr cA D r h') args s (cells + (hz h' - hz h)) (slots + (hs h' - hs h)) (Af base)) (F0 m (pc + 1) ls (List.map (upV adr) (.int (x.toUInt32 % 65536).toInt32 :: S))) := fun {H locs cells slots ls} CX1 => k0 p e Rm s m args below meth c H locs cells slots ls CX1
  exact lv_i2c CX.hx CX.hb hf rfl (k CX)
theorem s_dup : cl_dup (X0 l base adr cA D) := by
  intro d μ pc L S h r h' v hf hv hX
  obtain ⟨m1, k0⟩ := hX
  refine ⟨by first | exact m1 | exact ⟨Nat.le_trans (Nat.le_succ _) m1.1, Nat.le_trans (Nat.le_add_right _ _) m1.2.1, m1.2.2⟩, fun p e Rm s m args below meth c H locs cells slots ls CX => ?_⟩
  have k : ∀ {H : Heap} {locs : List Loc} {cells slots : Nat} {ls : Array Slot}, Ctx base adr cA D p Rm s m args meth c d μ L h h' H locs cells slots ls → W p l e Rm s m args below meth c H locs cells slots (MQ below (QcOf base adr cA D r h') args s (cells + (hz h' - hz h)) (slots + (hs h' - hs h)) (Af base)) (F0 m (pc + 1) ls (List.map (upV adr) (v :: v :: S))) := fun {H locs cells slots ls} CX1 => k0 p e Rm s m args below meth c H locs cells slots ls CX1
  exact lv_dup CX.hx CX.hb hf (by rw [up_cat]; exact hv) (k CX)
theorem s_dup2 : cl_dup2 (X0 l base adr cA D) := by
  intro d μ pc L S h r h' v w hf hv hw hX
  obtain ⟨m1, k0⟩ := hX
  refine ⟨by first | exact m1 | exact ⟨Nat.le_trans (Nat.le_succ _) m1.1, Nat.le_trans (Nat.le_add_right _ _) m1.2.1, m1.2.2⟩, fun p e Rm s m args below meth c H locs cells slots ls CX => ?_⟩
  have k : ∀ {H : Heap} {locs : List Loc} {cells slots : Nat} {ls : Array Slot}, Ctx base adr cA D p Rm s m args meth c d μ L h h' H locs cells slots ls → W p l e Rm s m args below meth c H locs cells slots (MQ below (QcOf base adr cA D r h') args s (cells + (hz h' - hz h)) (slots + (hs h' - hs h)) (Af base)) (F0 m (pc + 1) ls (List.map (upV adr) (v :: w :: v :: w :: S))) := fun {H locs cells slots ls} CX1 => k0 p e Rm s m args below meth c H locs cells slots ls CX1
  exact lv_dup2_11 CX.hx CX.hb hf (by rw [up_cat]; exact hv) (by rw [up_cat]; exact hw) (k CX)
theorem s_pop : cl_pop (X0 l base adr cA D) := by
  intro d μ pc L S h r h' v hf hv hX
  obtain ⟨m1, k0⟩ := hX
  refine ⟨by first | exact m1 | exact ⟨Nat.le_trans (Nat.le_succ _) m1.1, Nat.le_trans (Nat.le_add_right _ _) m1.2.1, m1.2.2⟩, fun p e Rm s m args below meth c H locs cells slots ls CX => ?_⟩
  have k : ∀ {H : Heap} {locs : List Loc} {cells slots : Nat} {ls : Array Slot}, Ctx base adr cA D p Rm s m args meth c d μ L h h' H locs cells slots ls → W p l e Rm s m args below meth c H locs cells slots (MQ below (QcOf base adr cA D r h') args s (cells + (hz h' - hz h)) (slots + (hs h' - hs h)) (Af base)) (F0 m (pc + 1) ls (List.map (upV adr) S)) := fun {H locs cells slots ls} CX1 => k0 p e Rm s m args below meth c H locs cells slots ls CX1
  exact lv_pop CX.hx CX.hb hf (by rw [up_cat]; exact hv) (k CX)
theorem s_goto : cl_goto (X0 l base adr cA D) := by
  intro d μ pc L S h r h' off tgt hf ht hX
  obtain ⟨m1, k0⟩ := hX
  refine ⟨by first | exact m1 | exact ⟨Nat.le_trans (Nat.le_succ _) m1.1, Nat.le_trans (Nat.le_add_right _ _) m1.2.1, m1.2.2⟩, fun p e Rm s m args below meth c H locs cells slots ls CX => ?_⟩
  have k : ∀ {H : Heap} {locs : List Loc} {cells slots : Nat} {ls : Array Slot}, Ctx base adr cA D p Rm s m args meth c d μ L h h' H locs cells slots ls → W p l e Rm s m args below meth c H locs cells slots (MQ below (QcOf base adr cA D r h') args s (cells + (hz h' - hz h)) (slots + (hs h' - hs h)) (Af base)) (F0 m tgt ls (List.map (upV adr) S)) := fun {H locs cells slots ls} CX1 => k0 p e Rm s m args below meth c H locs cells slots ls CX1
  exact lv_goto CX.hx CX.hb hf ht (k CX)
theorem s_if_eq_t : cl_if_eq_t (X0 l base adr cA D) := by
  intro d μ pc L S h r h' x off tgt hf ht hc hX
  obtain ⟨m1, k0⟩ := hX
  refine ⟨by first | exact m1 | exact ⟨Nat.le_trans (Nat.le_succ _) m1.1, Nat.le_trans (Nat.le_add_right _ _) m1.2.1, m1.2.2⟩, fun p e Rm s m args below meth c H locs cells slots ls CX => ?_⟩
  have k : ∀ {H : Heap} {locs : List Loc} {cells slots : Nat} {ls : Array Slot}, Ctx base adr cA D p Rm s m args meth c d μ L h h' H locs cells slots ls → W p l e Rm s m args below meth c H locs cells slots (MQ below (QcOf base adr cA D r h') args s (cells + (hz h' - hz h)) (slots + (hs h' - hs h)) (Af base)) (F0 m tgt ls (List.map (upV adr) S)) := fun {H locs cells slots ls} CX1 => k0 p e Rm s m args below meth c H locs cells slots ls CX1
  exact lv_if_eq CX.hx CX.hb hf ht (fun _ => k CX) (fun hn => by first | exact absurd hc hn | exact absurd hn hc)
theorem s_if_eq_f : cl_if_eq_f (X0 l base adr cA D) := by
  intro d μ pc L S h r h' x off tgt hf ht hc hX
  obtain ⟨m1, k0⟩ := hX
  refine ⟨by first | exact m1 | exact ⟨Nat.le_trans (Nat.le_succ _) m1.1, Nat.le_trans (Nat.le_add_right _ _) m1.2.1, m1.2.2⟩, fun p e Rm s m args below meth c H locs cells slots ls CX => ?_⟩
  have k : ∀ {H : Heap} {locs : List Loc} {cells slots : Nat} {ls : Array Slot}, Ctx base adr cA D p Rm s m args meth c d μ L h h' H locs cells slots ls → W p l e Rm s m args below meth c H locs cells slots (MQ below (QcOf base adr cA D r h') args s (cells + (hz h' - hz h)) (slots + (hs h' - hs h)) (Af base)) (F0 m (pc + 3) ls (List.map (upV adr) S)) := fun {H locs cells slots ls} CX1 => k0 p e Rm s m args below meth c H locs cells slots ls CX1
  exact lv_if_eq CX.hx CX.hb hf ht (fun hn => by first | exact absurd hn hc | exact absurd hc hn) (fun _ => k CX)
theorem s_if_ne_t : cl_if_ne_t (X0 l base adr cA D) := by
  intro d μ pc L S h r h' x off tgt hf ht hc hX
  obtain ⟨m1, k0⟩ := hX
  refine ⟨by first | exact m1 | exact ⟨Nat.le_trans (Nat.le_succ _) m1.1, Nat.le_trans (Nat.le_add_right _ _) m1.2.1, m1.2.2⟩, fun p e Rm s m args below meth c H locs cells slots ls CX => ?_⟩
  have k : ∀ {H : Heap} {locs : List Loc} {cells slots : Nat} {ls : Array Slot}, Ctx base adr cA D p Rm s m args meth c d μ L h h' H locs cells slots ls → W p l e Rm s m args below meth c H locs cells slots (MQ below (QcOf base adr cA D r h') args s (cells + (hz h' - hz h)) (slots + (hs h' - hs h)) (Af base)) (F0 m tgt ls (List.map (upV adr) S)) := fun {H locs cells slots ls} CX1 => k0 p e Rm s m args below meth c H locs cells slots ls CX1
  exact lv_if_ne CX.hx CX.hb hf ht (fun _ => k CX) (fun hn => by first | exact absurd hc hn | exact absurd hn hc)
theorem s_if_ne_f : cl_if_ne_f (X0 l base adr cA D) := by
  intro d μ pc L S h r h' x off tgt hf ht hc hX
  obtain ⟨m1, k0⟩ := hX
  refine ⟨by first | exact m1 | exact ⟨Nat.le_trans (Nat.le_succ _) m1.1, Nat.le_trans (Nat.le_add_right _ _) m1.2.1, m1.2.2⟩, fun p e Rm s m args below meth c H locs cells slots ls CX => ?_⟩
  have k : ∀ {H : Heap} {locs : List Loc} {cells slots : Nat} {ls : Array Slot}, Ctx base adr cA D p Rm s m args meth c d μ L h h' H locs cells slots ls → W p l e Rm s m args below meth c H locs cells slots (MQ below (QcOf base adr cA D r h') args s (cells + (hz h' - hz h)) (slots + (hs h' - hs h)) (Af base)) (F0 m (pc + 3) ls (List.map (upV adr) S)) := fun {H locs cells slots ls} CX1 => k0 p e Rm s m args below meth c H locs cells slots ls CX1
  exact lv_if_ne CX.hx CX.hb hf ht (fun hn => by first | exact absurd hn hc | exact absurd hc hn) (fun _ => k CX)
theorem s_if_lt_t : cl_if_lt_t (X0 l base adr cA D) := by
  intro d μ pc L S h r h' x off tgt hf ht hc hX
  obtain ⟨m1, k0⟩ := hX
  refine ⟨by first | exact m1 | exact ⟨Nat.le_trans (Nat.le_succ _) m1.1, Nat.le_trans (Nat.le_add_right _ _) m1.2.1, m1.2.2⟩, fun p e Rm s m args below meth c H locs cells slots ls CX => ?_⟩
  have k : ∀ {H : Heap} {locs : List Loc} {cells slots : Nat} {ls : Array Slot}, Ctx base adr cA D p Rm s m args meth c d μ L h h' H locs cells slots ls → W p l e Rm s m args below meth c H locs cells slots (MQ below (QcOf base adr cA D r h') args s (cells + (hz h' - hz h)) (slots + (hs h' - hs h)) (Af base)) (F0 m tgt ls (List.map (upV adr) S)) := fun {H locs cells slots ls} CX1 => k0 p e Rm s m args below meth c H locs cells slots ls CX1
  exact lv_if_lt CX.hx CX.hb hf ht (fun _ => k CX) (fun hn => by first | exact absurd hc hn | exact absurd hn hc)
theorem s_if_lt_f : cl_if_lt_f (X0 l base adr cA D) := by
  intro d μ pc L S h r h' x off tgt hf ht hc hX
  obtain ⟨m1, k0⟩ := hX
  refine ⟨by first | exact m1 | exact ⟨Nat.le_trans (Nat.le_succ _) m1.1, Nat.le_trans (Nat.le_add_right _ _) m1.2.1, m1.2.2⟩, fun p e Rm s m args below meth c H locs cells slots ls CX => ?_⟩
  have k : ∀ {H : Heap} {locs : List Loc} {cells slots : Nat} {ls : Array Slot}, Ctx base adr cA D p Rm s m args meth c d μ L h h' H locs cells slots ls → W p l e Rm s m args below meth c H locs cells slots (MQ below (QcOf base adr cA D r h') args s (cells + (hz h' - hz h)) (slots + (hs h' - hs h)) (Af base)) (F0 m (pc + 3) ls (List.map (upV adr) S)) := fun {H locs cells slots ls} CX1 => k0 p e Rm s m args below meth c H locs cells slots ls CX1
  exact lv_if_lt CX.hx CX.hb hf ht (fun hn => by first | exact absurd hn hc | exact absurd hc hn) (fun _ => k CX)
theorem s_if_ge_t : cl_if_ge_t (X0 l base adr cA D) := by
  intro d μ pc L S h r h' x off tgt hf ht hc hX
  obtain ⟨m1, k0⟩ := hX
  refine ⟨by first | exact m1 | exact ⟨Nat.le_trans (Nat.le_succ _) m1.1, Nat.le_trans (Nat.le_add_right _ _) m1.2.1, m1.2.2⟩, fun p e Rm s m args below meth c H locs cells slots ls CX => ?_⟩
  have k : ∀ {H : Heap} {locs : List Loc} {cells slots : Nat} {ls : Array Slot}, Ctx base adr cA D p Rm s m args meth c d μ L h h' H locs cells slots ls → W p l e Rm s m args below meth c H locs cells slots (MQ below (QcOf base adr cA D r h') args s (cells + (hz h' - hz h)) (slots + (hs h' - hs h)) (Af base)) (F0 m tgt ls (List.map (upV adr) S)) := fun {H locs cells slots ls} CX1 => k0 p e Rm s m args below meth c H locs cells slots ls CX1
  exact lv_if_ge CX.hx CX.hb hf ht (fun _ => k CX) (fun hn => by first | exact absurd hc hn | exact absurd hn hc)
theorem s_if_ge_f : cl_if_ge_f (X0 l base adr cA D) := by
  intro d μ pc L S h r h' x off tgt hf ht hc hX
  obtain ⟨m1, k0⟩ := hX
  refine ⟨by first | exact m1 | exact ⟨Nat.le_trans (Nat.le_succ _) m1.1, Nat.le_trans (Nat.le_add_right _ _) m1.2.1, m1.2.2⟩, fun p e Rm s m args below meth c H locs cells slots ls CX => ?_⟩
  have k : ∀ {H : Heap} {locs : List Loc} {cells slots : Nat} {ls : Array Slot}, Ctx base adr cA D p Rm s m args meth c d μ L h h' H locs cells slots ls → W p l e Rm s m args below meth c H locs cells slots (MQ below (QcOf base adr cA D r h') args s (cells + (hz h' - hz h)) (slots + (hs h' - hs h)) (Af base)) (F0 m (pc + 3) ls (List.map (upV adr) S)) := fun {H locs cells slots ls} CX1 => k0 p e Rm s m args below meth c H locs cells slots ls CX1
  exact lv_if_ge CX.hx CX.hb hf ht (fun hn => by first | exact absurd hn hc | exact absurd hc hn) (fun _ => k CX)
theorem s_if_gt_t : cl_if_gt_t (X0 l base adr cA D) := by
  intro d μ pc L S h r h' x off tgt hf ht hc hX
  obtain ⟨m1, k0⟩ := hX
  refine ⟨by first | exact m1 | exact ⟨Nat.le_trans (Nat.le_succ _) m1.1, Nat.le_trans (Nat.le_add_right _ _) m1.2.1, m1.2.2⟩, fun p e Rm s m args below meth c H locs cells slots ls CX => ?_⟩
  have k : ∀ {H : Heap} {locs : List Loc} {cells slots : Nat} {ls : Array Slot}, Ctx base adr cA D p Rm s m args meth c d μ L h h' H locs cells slots ls → W p l e Rm s m args below meth c H locs cells slots (MQ below (QcOf base adr cA D r h') args s (cells + (hz h' - hz h)) (slots + (hs h' - hs h)) (Af base)) (F0 m tgt ls (List.map (upV adr) S)) := fun {H locs cells slots ls} CX1 => k0 p e Rm s m args below meth c H locs cells slots ls CX1
  exact lv_if_gt CX.hx CX.hb hf ht (fun _ => k CX) (fun hn => by first | exact absurd hc hn | exact absurd hn hc)
theorem s_if_gt_f : cl_if_gt_f (X0 l base adr cA D) := by
  intro d μ pc L S h r h' x off tgt hf ht hc hX
  obtain ⟨m1, k0⟩ := hX
  refine ⟨by first | exact m1 | exact ⟨Nat.le_trans (Nat.le_succ _) m1.1, Nat.le_trans (Nat.le_add_right _ _) m1.2.1, m1.2.2⟩, fun p e Rm s m args below meth c H locs cells slots ls CX => ?_⟩
  have k : ∀ {H : Heap} {locs : List Loc} {cells slots : Nat} {ls : Array Slot}, Ctx base adr cA D p Rm s m args meth c d μ L h h' H locs cells slots ls → W p l e Rm s m args below meth c H locs cells slots (MQ below (QcOf base adr cA D r h') args s (cells + (hz h' - hz h)) (slots + (hs h' - hs h)) (Af base)) (F0 m (pc + 3) ls (List.map (upV adr) S)) := fun {H locs cells slots ls} CX1 => k0 p e Rm s m args below meth c H locs cells slots ls CX1
  exact lv_if_gt CX.hx CX.hb hf ht (fun hn => by first | exact absurd hn hc | exact absurd hc hn) (fun _ => k CX)
theorem s_if_le_t : cl_if_le_t (X0 l base adr cA D) := by
  intro d μ pc L S h r h' x off tgt hf ht hc hX
  obtain ⟨m1, k0⟩ := hX
  refine ⟨by first | exact m1 | exact ⟨Nat.le_trans (Nat.le_succ _) m1.1, Nat.le_trans (Nat.le_add_right _ _) m1.2.1, m1.2.2⟩, fun p e Rm s m args below meth c H locs cells slots ls CX => ?_⟩
  have k : ∀ {H : Heap} {locs : List Loc} {cells slots : Nat} {ls : Array Slot}, Ctx base adr cA D p Rm s m args meth c d μ L h h' H locs cells slots ls → W p l e Rm s m args below meth c H locs cells slots (MQ below (QcOf base adr cA D r h') args s (cells + (hz h' - hz h)) (slots + (hs h' - hs h)) (Af base)) (F0 m tgt ls (List.map (upV adr) S)) := fun {H locs cells slots ls} CX1 => k0 p e Rm s m args below meth c H locs cells slots ls CX1
  exact lv_if_le CX.hx CX.hb hf ht (fun _ => k CX) (fun hn => by first | exact absurd hc hn | exact absurd hn hc)
theorem s_if_le_f : cl_if_le_f (X0 l base adr cA D) := by
  intro d μ pc L S h r h' x off tgt hf ht hc hX
  obtain ⟨m1, k0⟩ := hX
  refine ⟨by first | exact m1 | exact ⟨Nat.le_trans (Nat.le_succ _) m1.1, Nat.le_trans (Nat.le_add_right _ _) m1.2.1, m1.2.2⟩, fun p e Rm s m args below meth c H locs cells slots ls CX => ?_⟩
  have k : ∀ {H : Heap} {locs : List Loc} {cells slots : Nat} {ls : Array Slot}, Ctx base adr cA D p Rm s m args meth c d μ L h h' H locs cells slots ls → W p l e Rm s m args below meth c H locs cells slots (MQ below (QcOf base adr cA D r h') args s (cells + (hz h' - hz h)) (slots + (hs h' - hs h)) (Af base)) (F0 m (pc + 3) ls (List.map (upV adr) S)) := fun {H locs cells slots ls} CX1 => k0 p e Rm s m args below meth c H locs cells slots ls CX1
  exact lv_if_le CX.hx CX.hb hf ht (fun hn => by first | exact absurd hn hc | exact absurd hc hn) (fun _ => k CX)
theorem s_icmp_eq_t : cl_icmp_eq_t (X0 l base adr cA D) := by
  intro d μ pc L S h r h' x y off tgt hf ht hc hX
  obtain ⟨m1, k0⟩ := hX
  refine ⟨by first | exact m1 | exact ⟨Nat.le_trans (Nat.le_succ _) m1.1, Nat.le_trans (Nat.le_add_right _ _) m1.2.1, m1.2.2⟩, fun p e Rm s m args below meth c H locs cells slots ls CX => ?_⟩
  have k : ∀ {H : Heap} {locs : List Loc} {cells slots : Nat} {ls : Array Slot}, Ctx base adr cA D p Rm s m args meth c d μ L h h' H locs cells slots ls → W p l e Rm s m args below meth c H locs cells slots (MQ below (QcOf base adr cA D r h') args s (cells + (hz h' - hz h)) (slots + (hs h' - hs h)) (Af base)) (F0 m tgt ls (List.map (upV adr) S)) := fun {H locs cells slots ls} CX1 => k0 p e Rm s m args below meth c H locs cells slots ls CX1
  exact lv_icmp_eq CX.hx CX.hb hf ht (fun _ => k CX) (fun hn => by first | exact absurd hc hn | exact absurd hn hc)
theorem s_icmp_eq_f : cl_icmp_eq_f (X0 l base adr cA D) := by
  intro d μ pc L S h r h' x y off tgt hf ht hc hX
  obtain ⟨m1, k0⟩ := hX
  refine ⟨by first | exact m1 | exact ⟨Nat.le_trans (Nat.le_succ _) m1.1, Nat.le_trans (Nat.le_add_right _ _) m1.2.1, m1.2.2⟩, fun p e Rm s m args below meth c H locs cells slots ls CX => ?_⟩
  have k : ∀ {H : Heap} {locs : List Loc} {cells slots : Nat} {ls : Array Slot}, Ctx base adr cA D p Rm s m args meth c d μ L h h' H locs cells slots ls → W p l e Rm s m args below meth c H locs cells slots (MQ below (QcOf base adr cA D r h') args s (cells + (hz h' - hz h)) (slots + (hs h' - hs h)) (Af base)) (F0 m (pc + 3) ls (List.map (upV adr) S)) := fun {H locs cells slots ls} CX1 => k0 p e Rm s m args below meth c H locs cells slots ls CX1
  exact lv_icmp_eq CX.hx CX.hb hf ht (fun hn => by first | exact absurd hn hc | exact absurd hc hn) (fun _ => k CX)
theorem s_icmp_ne_t : cl_icmp_ne_t (X0 l base adr cA D) := by
  intro d μ pc L S h r h' x y off tgt hf ht hc hX
  obtain ⟨m1, k0⟩ := hX
  refine ⟨by first | exact m1 | exact ⟨Nat.le_trans (Nat.le_succ _) m1.1, Nat.le_trans (Nat.le_add_right _ _) m1.2.1, m1.2.2⟩, fun p e Rm s m args below meth c H locs cells slots ls CX => ?_⟩
  have k : ∀ {H : Heap} {locs : List Loc} {cells slots : Nat} {ls : Array Slot}, Ctx base adr cA D p Rm s m args meth c d μ L h h' H locs cells slots ls → W p l e Rm s m args below meth c H locs cells slots (MQ below (QcOf base adr cA D r h') args s (cells + (hz h' - hz h)) (slots + (hs h' - hs h)) (Af base)) (F0 m tgt ls (List.map (upV adr) S)) := fun {H locs cells slots ls} CX1 => k0 p e Rm s m args below meth c H locs cells slots ls CX1
  exact lv_icmp_ne CX.hx CX.hb hf ht (fun _ => k CX) (fun hn => by first | exact absurd hc hn | exact absurd hn hc)
theorem s_icmp_ne_f : cl_icmp_ne_f (X0 l base adr cA D) := by
  intro d μ pc L S h r h' x y off tgt hf ht hc hX
  obtain ⟨m1, k0⟩ := hX
  refine ⟨by first | exact m1 | exact ⟨Nat.le_trans (Nat.le_succ _) m1.1, Nat.le_trans (Nat.le_add_right _ _) m1.2.1, m1.2.2⟩, fun p e Rm s m args below meth c H locs cells slots ls CX => ?_⟩
  have k : ∀ {H : Heap} {locs : List Loc} {cells slots : Nat} {ls : Array Slot}, Ctx base adr cA D p Rm s m args meth c d μ L h h' H locs cells slots ls → W p l e Rm s m args below meth c H locs cells slots (MQ below (QcOf base adr cA D r h') args s (cells + (hz h' - hz h)) (slots + (hs h' - hs h)) (Af base)) (F0 m (pc + 3) ls (List.map (upV adr) S)) := fun {H locs cells slots ls} CX1 => k0 p e Rm s m args below meth c H locs cells slots ls CX1
  exact lv_icmp_ne CX.hx CX.hb hf ht (fun hn => by first | exact absurd hn hc | exact absurd hc hn) (fun _ => k CX)
theorem s_icmp_lt_t : cl_icmp_lt_t (X0 l base adr cA D) := by
  intro d μ pc L S h r h' x y off tgt hf ht hc hX
  obtain ⟨m1, k0⟩ := hX
  refine ⟨by first | exact m1 | exact ⟨Nat.le_trans (Nat.le_succ _) m1.1, Nat.le_trans (Nat.le_add_right _ _) m1.2.1, m1.2.2⟩, fun p e Rm s m args below meth c H locs cells slots ls CX => ?_⟩
  have k : ∀ {H : Heap} {locs : List Loc} {cells slots : Nat} {ls : Array Slot}, Ctx base adr cA D p Rm s m args meth c d μ L h h' H locs cells slots ls → W p l e Rm s m args below meth c H locs cells slots (MQ below (QcOf base adr cA D r h') args s (cells + (hz h' - hz h)) (slots + (hs h' - hs h)) (Af base)) (F0 m tgt ls (List.map (upV adr) S)) := fun {H locs cells slots ls} CX1 => k0 p e Rm s m args below meth c H locs cells slots ls CX1
  exact lv_icmp_lt CX.hx CX.hb hf ht (fun _ => k CX) (fun hn => by first | exact absurd hc hn | exact absurd hn hc)
theorem s_icmp_lt_f : cl_icmp_lt_f (X0 l base adr cA D) := by
  intro d μ pc L S h r h' x y off tgt hf ht hc hX
  obtain ⟨m1, k0⟩ := hX
  refine ⟨by first | exact m1 | exact ⟨Nat.le_trans (Nat.le_succ _) m1.1, Nat.le_trans (Nat.le_add_right _ _) m1.2.1, m1.2.2⟩, fun p e Rm s m args below meth c H locs cells slots ls CX => ?_⟩
  have k : ∀ {H : Heap} {locs : List Loc} {cells slots : Nat} {ls : Array Slot}, Ctx base adr cA D p Rm s m args meth c d μ L h h' H locs cells slots ls → W p l e Rm s m args below meth c H locs cells slots (MQ below (QcOf base adr cA D r h') args s (cells + (hz h' - hz h)) (slots + (hs h' - hs h)) (Af base)) (F0 m (pc + 3) ls (List.map (upV adr) S)) := fun {H locs cells slots ls} CX1 => k0 p e Rm s m args below meth c H locs cells slots ls CX1
  exact lv_icmp_lt CX.hx CX.hb hf ht (fun hn => by first | exact absurd hn hc | exact absurd hc hn) (fun _ => k CX)
theorem s_icmp_ge_t : cl_icmp_ge_t (X0 l base adr cA D) := by
  intro d μ pc L S h r h' x y off tgt hf ht hc hX
  obtain ⟨m1, k0⟩ := hX
  refine ⟨by first | exact m1 | exact ⟨Nat.le_trans (Nat.le_succ _) m1.1, Nat.le_trans (Nat.le_add_right _ _) m1.2.1, m1.2.2⟩, fun p e Rm s m args below meth c H locs cells slots ls CX => ?_⟩
  have k : ∀ {H : Heap} {locs : List Loc} {cells slots : Nat} {ls : Array Slot}, Ctx base adr cA D p Rm s m args meth c d μ L h h' H locs cells slots ls → W p l e Rm s m args below meth c H locs cells slots (MQ below (QcOf base adr cA D r h') args s (cells + (hz h' - hz h)) (slots + (hs h' - hs h)) (Af base)) (F0 m tgt ls (List.map (upV adr) S)) := fun {H locs cells slots ls} CX1 => k0 p e Rm s m args below meth c H locs cells slots ls CX1
  exact lv_icmp_ge CX.hx CX.hb hf ht (fun _ => k CX) (fun hn => by first | exact absurd hc hn | exact absurd hn hc)
theorem s_icmp_ge_f : cl_icmp_ge_f (X0 l base adr cA D) := by
  intro d μ pc L S h r h' x y off tgt hf ht hc hX
  obtain ⟨m1, k0⟩ := hX
  refine ⟨by first | exact m1 | exact ⟨Nat.le_trans (Nat.le_succ _) m1.1, Nat.le_trans (Nat.le_add_right _ _) m1.2.1, m1.2.2⟩, fun p e Rm s m args below meth c H locs cells slots ls CX => ?_⟩
  have k : ∀ {H : Heap} {locs : List Loc} {cells slots : Nat} {ls : Array Slot}, Ctx base adr cA D p Rm s m args meth c d μ L h h' H locs cells slots ls → W p l e Rm s m args below meth c H locs cells slots (MQ below (QcOf base adr cA D r h') args s (cells + (hz h' - hz h)) (slots + (hs h' - hs h)) (Af base)) (F0 m (pc + 3) ls (List.map (upV adr) S)) := fun {H locs cells slots ls} CX1 => k0 p e Rm s m args below meth c H locs cells slots ls CX1
  exact lv_icmp_ge CX.hx CX.hb hf ht (fun hn => by first | exact absurd hn hc | exact absurd hc hn) (fun _ => k CX)
theorem s_icmp_gt_t : cl_icmp_gt_t (X0 l base adr cA D) := by
  intro d μ pc L S h r h' x y off tgt hf ht hc hX
  obtain ⟨m1, k0⟩ := hX
  refine ⟨by first | exact m1 | exact ⟨Nat.le_trans (Nat.le_succ _) m1.1, Nat.le_trans (Nat.le_add_right _ _) m1.2.1, m1.2.2⟩, fun p e Rm s m args below meth c H locs cells slots ls CX => ?_⟩
  have k : ∀ {H : Heap} {locs : List Loc} {cells slots : Nat} {ls : Array Slot}, Ctx base adr cA D p Rm s m args meth c d μ L h h' H locs cells slots ls → W p l e Rm s m args below meth c H locs cells slots (MQ below (QcOf base adr cA D r h') args s (cells + (hz h' - hz h)) (slots + (hs h' - hs h)) (Af base)) (F0 m tgt ls (List.map (upV adr) S)) := fun {H locs cells slots ls} CX1 => k0 p e Rm s m args below meth c H locs cells slots ls CX1
  exact lv_icmp_gt CX.hx CX.hb hf ht (fun _ => k CX) (fun hn => by first | exact absurd hc hn | exact absurd hn hc)
theorem s_icmp_gt_f : cl_icmp_gt_f (X0 l base adr cA D) := by
  intro d μ pc L S h r h' x y off tgt hf ht hc hX
  obtain ⟨m1, k0⟩ := hX
  refine ⟨by first | exact m1 | exact ⟨Nat.le_trans (Nat.le_succ _) m1.1, Nat.le_trans (Nat.le_add_right _ _) m1.2.1, m1.2.2⟩, fun p e Rm s m args below meth c H locs cells slots ls CX => ?_⟩
  have k : ∀ {H : Heap} {locs : List Loc} {cells slots : Nat} {ls : Array Slot}, Ctx base adr cA D p Rm s m args meth c d μ L h h' H locs cells slots ls → W p l e Rm s m args below meth c H locs cells slots (MQ below (QcOf base adr cA D r h') args s (cells + (hz h' - hz h)) (slots + (hs h' - hs h)) (Af base)) (F0 m (pc + 3) ls (List.map (upV adr) S)) := fun {H locs cells slots ls} CX1 => k0 p e Rm s m args below meth c H locs cells slots ls CX1
  exact lv_icmp_gt CX.hx CX.hb hf ht (fun hn => by first | exact absurd hn hc | exact absurd hc hn) (fun _ => k CX)
theorem s_icmp_le_t : cl_icmp_le_t (X0 l base adr cA D) := by
  intro d μ pc L S h r h' x y off tgt hf ht hc hX
  obtain ⟨m1, k0⟩ := hX
  refine ⟨by first | exact m1 | exact ⟨Nat.le_trans (Nat.le_succ _) m1.1, Nat.le_trans (Nat.le_add_right _ _) m1.2.1, m1.2.2⟩, fun p e Rm s m args below meth c H locs cells slots ls CX => ?_⟩
  have k : ∀ {H : Heap} {locs : List Loc} {cells slots : Nat} {ls : Array Slot}, Ctx base adr cA D p Rm s m args meth c d μ L h h' H locs cells slots ls → W p l e Rm s m args below meth c H locs cells slots (MQ below (QcOf base adr cA D r h') args s (cells + (hz h' - hz h)) (slots + (hs h' - hs h)) (Af base)) (F0 m tgt ls (List.map (upV adr) S)) := fun {H locs cells slots ls} CX1 => k0 p e Rm s m args below meth c H locs cells slots ls CX1
  exact lv_icmp_le CX.hx CX.hb hf ht (fun _ => k CX) (fun hn => by first | exact absurd hc hn | exact absurd hn hc)
theorem s_icmp_le_f : cl_icmp_le_f (X0 l base adr cA D) := by
  intro d μ pc L S h r h' x y off tgt hf ht hc hX
  obtain ⟨m1, k0⟩ := hX
  refine ⟨by first | exact m1 | exact ⟨Nat.le_trans (Nat.le_succ _) m1.1, Nat.le_trans (Nat.le_add_right _ _) m1.2.1, m1.2.2⟩, fun p e Rm s m args below meth c H locs cells slots ls CX => ?_⟩
  have k : ∀ {H : Heap} {locs : List Loc} {cells slots : Nat} {ls : Array Slot}, Ctx base adr cA D p Rm s m args meth c d μ L h h' H locs cells slots ls → W p l e Rm s m args below meth c H locs cells slots (MQ below (QcOf base adr cA D r h') args s (cells + (hz h' - hz h)) (slots + (hs h' - hs h)) (Af base)) (F0 m (pc + 3) ls (List.map (upV adr) S)) := fun {H locs cells slots ls} CX1 => k0 p e Rm s m args below meth c H locs cells slots ls CX1
  exact lv_icmp_le CX.hx CX.hb hf ht (fun hn => by first | exact absurd hn hc | exact absurd hc hn) (fun _ => k CX)
theorem s_ifnonnull : cl_ifnonnull (X0 l base adr cA D) := by
  intro d μ pc L S h r h' x off tgt hf ht hX
  obtain ⟨m1, k0⟩ := hX
  refine ⟨by first | exact m1 | exact ⟨Nat.le_trans (Nat.le_succ _) m1.1, Nat.le_trans (Nat.le_add_right _ _) m1.2.1, m1.2.2⟩, fun p e Rm s m args below meth c H locs cells slots ls CX => ?_⟩
  have k : ∀ {H : Heap} {locs : List Loc} {cells slots : Nat} {ls : Array Slot}, Ctx base adr cA D p Rm s m args meth c d μ L h h' H locs cells slots ls → W p l e Rm s m args below meth c H locs cells slots (MQ below (QcOf base adr cA D r h') args s (cells + (hz h' - hz h)) (slots + (hs h' - hs h)) (Af base)) (F0 m tgt ls (List.map (upV adr) S)) := fun {H locs cells slots ls} CX1 => k0 p e Rm s m args below meth c H locs cells slots ls CX1
  exact lv_ifnonnull CX.hx CX.hb hf ht (k CX)
theorem s_ifnonnullN : cl_ifnonnullN (X0 l base adr cA D) := by
  intro d μ pc L S h r h' off hf  hX
  obtain ⟨m1, k0⟩ := hX
  refine ⟨by first | exact m1 | exact ⟨Nat.le_trans (Nat.le_succ _) m1.1, Nat.le_trans (Nat.le_add_right _ _) m1.2.1, m1.2.2⟩, fun p e Rm s m args below meth c H locs cells slots ls CX => ?_⟩
  have k : ∀ {H : Heap} {locs : List Loc} {cells slots : Nat} {ls : Array Slot}, Ctx base adr cA D p Rm s m args meth c d μ L h h' H locs cells slots ls → W p l e Rm s m args below meth c H locs cells slots (MQ below (QcOf base adr cA D r h') args s (cells + (hz h' - hz h)) (slots + (hs h' - hs h)) (Af base)) (F0 m (pc + 3) ls (List.map (upV adr) S)) := fun {H locs cells slots ls} CX1 => k0 p e Rm s m args below meth c H locs cells slots ls CX1
  exact lv_ifnonnullN CX.hx CX.hb hf (k CX)
theorem s_ifnull : cl_ifnull (X0 l base adr cA D) := by
  intro d μ pc L S h r h' x off hf  hX
  obtain ⟨m1, k0⟩ := hX
  refine ⟨by first | exact m1 | exact ⟨Nat.le_trans (Nat.le_succ _) m1.1, Nat.le_trans (Nat.le_add_right _ _) m1.2.1, m1.2.2⟩, fun p e Rm s m args below meth c H locs cells slots ls CX => ?_⟩
  have k : ∀ {H : Heap} {locs : List Loc} {cells slots : Nat} {ls : Array Slot}, Ctx base adr cA D p Rm s m args meth c d μ L h h' H locs cells slots ls → W p l e Rm s m args below meth c H locs cells slots (MQ below (QcOf base adr cA D r h') args s (cells + (hz h' - hz h)) (slots + (hs h' - hs h)) (Af base)) (F0 m (pc + 3) ls (List.map (upV adr) S)) := fun {H locs cells slots ls} CX1 => k0 p e Rm s m args below meth c H locs cells slots ls CX1
  exact lv_ifnull CX.hx CX.hb hf (k CX)
theorem s_ifnullN : cl_ifnullN (X0 l base adr cA D) := by
  intro d μ pc L S h r h' off tgt hf ht hX
  obtain ⟨m1, k0⟩ := hX
  refine ⟨by first | exact m1 | exact ⟨Nat.le_trans (Nat.le_succ _) m1.1, Nat.le_trans (Nat.le_add_right _ _) m1.2.1, m1.2.2⟩, fun p e Rm s m args below meth c H locs cells slots ls CX => ?_⟩
  have k : ∀ {H : Heap} {locs : List Loc} {cells slots : Nat} {ls : Array Slot}, Ctx base adr cA D p Rm s m args meth c d μ L h h' H locs cells slots ls → W p l e Rm s m args below meth c H locs cells slots (MQ below (QcOf base adr cA D r h') args s (cells + (hz h' - hz h)) (slots + (hs h' - hs h)) (Af base)) (F0 m tgt ls (List.map (upV adr) S)) := fun {H locs cells slots ls} CX1 => k0 p e Rm s m args below meth c H locs cells slots ls CX1
  exact lv_ifnullN CX.hx CX.hb hf ht (k CX)
theorem s_tableIn : cl_tableIn (X0 l base adr cA D) := by
  intro d μ pc L S h r h' dflt lo hi offs len x off tgt hf h1 h2 ho ht hX
  obtain ⟨m1, k0⟩ := hX
  refine ⟨by first | exact m1 | exact ⟨Nat.le_trans (Nat.le_succ _) m1.1, Nat.le_trans (Nat.le_add_right _ _) m1.2.1, m1.2.2⟩, fun p e Rm s m args below meth c H locs cells slots ls CX => ?_⟩
  have k : ∀ {H : Heap} {locs : List Loc} {cells slots : Nat} {ls : Array Slot}, Ctx base adr cA D p Rm s m args meth c d μ L h h' H locs cells slots ls → W p l e Rm s m args below meth c H locs cells slots (MQ below (QcOf base adr cA D r h') args s (cells + (hz h' - hz h)) (slots + (hs h' - hs h)) (Af base)) (F0 m tgt ls (List.map (upV adr) S)) := fun {H locs cells slots ls} CX1 => k0 p e Rm s m args below meth c H locs cells slots ls CX1
  exact lv_tableIn CX.hx CX.hb hf h1 h2 ho ht (k CX)
theorem s_tableOut : cl_tableOut (X0 l base adr cA D) := by
  intro d μ pc L S h r h' dflt lo hi offs len x tgt hf h1 ht hX
  obtain ⟨m1, k0⟩ := hX
  refine ⟨by first | exact m1 | exact ⟨Nat.le_trans (Nat.le_succ _) m1.1, Nat.le_trans (Nat.le_add_right _ _) m1.2.1, m1.2.2⟩, fun p e Rm s m args below meth c H locs cells slots ls CX => ?_⟩
  have k : ∀ {H : Heap} {locs : List Loc} {cells slots : Nat} {ls : Array Slot}, Ctx base adr cA D p Rm s m args meth c d μ L h h' H locs cells slots ls → W p l e Rm s m args below meth c H locs cells slots (MQ below (QcOf base adr cA D r h') args s (cells + (hz h' - hz h)) (slots + (hs h' - hs h)) (Af base)) (F0 m tgt ls (List.map (upV adr) S)) := fun {H locs cells slots ls} CX1 => k0 p e Rm s m args below meth c H locs cells slots ls CX1
  exact lv_tableOut CX.hx CX.hb hf h1 ht (k CX)
theorem s_lookup : cl_lookup (X0 l base adr cA D) := by
  intro d μ pc L S h r h' dflt ps len x off tgt hf hps ho ht hX
  obtain ⟨m1, k0⟩ := hX
  refine ⟨by first | exact m1 | exact ⟨Nat.le_trans (Nat.le_succ _) m1.1, Nat.le_trans (Nat.le_add_right _ _) m1.2.1, m1.2.2⟩, fun p e Rm s m args below meth c H locs cells slots ls CX => ?_⟩
  have k : ∀ {H : Heap} {locs : List Loc} {cells slots : Nat} {ls : Array Slot}, Ctx base adr cA D p Rm s m args meth c d μ L h h' H locs cells slots ls → W p l e Rm s m args below meth c H locs cells slots (MQ below (QcOf base adr cA D r h') args s (cells + (hz h' - hz h)) (slots + (hs h' - hs h)) (Af base)) (F0 m tgt ls (List.map (upV adr) S)) := fun {H locs cells slots ls} CX1 => k0 p e Rm s m args below meth c H locs cells slots ls CX1
  exact lv_lookup CX.hx CX.hb hf hps ho ht (k CX)
theorem s_getI : cl_getI (X0 l base adr cA D) := by
  intro d μ pc L S h r h' i ci k_ n idx ty fin hf hl hF ha hX
  obtain ⟨m1, k0⟩ := hX
  refine ⟨by first | exact m1 | exact ⟨Nat.le_trans (Nat.le_succ _) m1.1, Nat.le_trans (Nat.le_add_right _ _) m1.2.1, m1.2.2⟩, fun p e Rm s m args below meth c H locs cells slots ls CX => ?_⟩
  have k : ∀ {H : Heap} {locs : List Loc} {cells slots : Nat} {ls : Array Slot}, Ctx base adr cA D p Rm s m args meth c d μ L h h' H locs cells slots ls → W p l e Rm s m args below meth c H locs cells slots (MQ below (QcOf base adr cA D r h') args s (cells + (hz h' - hz h)) (slots + (hs h' - hs h)) (Af base)) (F0 m (pc + 3) ls (List.map (upV adr) (.int (hI h i k_) :: S))) := fun {H locs cells slots ls} CX1 => k0 p e Rm s m args below meth c H locs cells slots ls CX1
  exact CX.getf hl ha (by rw [hF]; rfl) hf (k CX)
theorem s_getR : cl_getR (X0 l base adr cA D) := by
  intro d μ pc L S h r h' i ci k_ n idx j ty fin hf hl hF ha hj hX
  obtain ⟨m1, k0⟩ := hX
  refine ⟨by first | exact m1 | exact ⟨Nat.le_trans (Nat.le_succ _) m1.1, Nat.le_trans (Nat.le_add_right _ _) m1.2.1, m1.2.2⟩, fun p e Rm s m args below meth c H locs cells slots ls CX => ?_⟩
  have k : ∀ {H : Heap} {locs : List Loc} {cells slots : Nat} {ls : Array Slot}, Ctx base adr cA D p Rm s m args meth c d μ L h h' H locs cells slots ls → W p l e Rm s m args below meth c H locs cells slots (MQ below (QcOf base adr cA D r h') args s (cells + (hz h' - hz h)) (slots + (hs h' - hs h)) (Af base)) (F0 m (pc + 3) ls (List.map (upV adr) (.ref j :: S))) := fun {H locs cells slots ls} CX1 => k0 p e Rm s m args below meth c H locs cells slots ls CX1
  exact CX.getf hl ha (by rw [hF, hj]; rfl) hf (k CX)
theorem s_putI : cl_putI (X0 l base adr cA D) := by
  intro d μ pc L S h r h' i ci k_ n idx ty v hf hl hF ha hn hfit hX
  obtain ⟨m1, k0⟩ := hX
  refine ⟨by first | exact m1 | exact ⟨Nat.le_trans (Nat.le_succ _) m1.1, Nat.le_trans (Nat.le_add_right _ _) m1.2.1, m1.2.2⟩, fun p e Rm s m args below meth c H locs cells slots ls CX => ?_⟩
  have k : ∀ {H : Heap} {locs : List Loc} {cells slots : Nat} {ls : Array Slot}, Ctx base adr cA D p Rm s m args meth c d μ L (putI h i k_ v) h' H locs cells slots ls → W p l e Rm s m args below meth c H locs cells slots (MQ below (QcOf base adr cA D r h') args s (cells + (hz h' - hz (putI h i k_ v))) (slots + (hs h' - hs (putI h i k_ v))) (Af base)) (F0 m (pc + 3) ls (List.map (upV adr) S)) := fun {H locs cells slots ls} CX1 => k0 p e Rm s m args below meth c H locs cells slots ls CX1
  exact CX.putf hl ha (Or.inl rfl) hn hfit (mE_putI hF ha hl) rfl rfl rfl rfl hf (fun CX1 => k CX1)
theorem s_putIF : cl_putIF (X0 l base adr cA D) := by
  intro d μ pc L S h r h' i ci k_ n idx ty v hf hl hF ha hn hfit hini hX
  obtain ⟨m1, k0⟩ := hX
  refine ⟨by first | exact m1 | exact ⟨Nat.le_trans (Nat.le_succ _) m1.1, Nat.le_trans (Nat.le_add_right _ _) m1.2.1, m1.2.2⟩, fun p e Rm s m args below meth c H locs cells slots ls CX => ?_⟩
  have k : ∀ {H : Heap} {locs : List Loc} {cells slots : Nat} {ls : Array Slot}, Ctx base adr cA D p Rm s m args meth c d μ L (putI h i k_ v) h' H locs cells slots ls → W p l e Rm s m args below meth c H locs cells slots (MQ below (QcOf base adr cA D r h') args s (cells + (hz h' - hz (putI h i k_ v))) (slots + (hs h' - hs (putI h i k_ v))) (Af base)) (F0 m (pc + 3) ls (List.map (upV adr) S)) := fun {H locs cells slots ls} CX1 => k0 p e Rm s m args below meth c H locs cells slots ls CX1
  exact CX.putf hl ha (Or.inr ⟨rfl, hini⟩) hn hfit (mE_putI hF ha hl) rfl rfl rfl rfl hf (fun CX1 => k CX1)
theorem s_putRF : cl_putRF (X0 l base adr cA D) := by
  intro d μ pc L S h r h' i ci k_ n idx j ty hf hl hF ha hty hini hX
  obtain ⟨m1, k0⟩ := hX
  refine ⟨by first | exact m1 | exact ⟨Nat.le_trans (Nat.le_succ _) m1.1, Nat.le_trans (Nat.le_add_right _ _) m1.2.1, m1.2.2⟩, fun p e Rm s m args below meth c H locs cells slots ls CX => ?_⟩
  have k : ∀ {H : Heap} {locs : List Loc} {cells slots : Nat} {ls : Array Slot}, Ctx base adr cA D p Rm s m args meth c d μ L (putR h i k_ (some j)) h' H locs cells slots ls → W p l e Rm s m args below meth c H locs cells slots (MQ below (QcOf base adr cA D r h') args s (cells + (hz h' - hz (putR h i k_ (some j)))) (slots + (hs h' - hs (putR h i k_ (some j)))) (Af base)) (F0 m (pc + 3) ls (List.map (upV adr) S)) := fun {H locs cells slots ls} CX1 => k0 p e Rm s m args below meth c H locs cells slots ls CX1
  exact CX.putf hl ha (Or.inr ⟨rfl, hini⟩) (tyR_nar hty _) (tyR_fit hty _) (mE_putR hF ha hl) rfl rfl rfl rfl hf (fun CX1 => k CX1)
theorem s_iald : cl_iald (X0 l base adr cA D) := by
  intro d μ pc L S h r h' i n x hf ha hin hX
  obtain ⟨m1, k0⟩ := hX
  refine ⟨by first | exact m1 | exact ⟨Nat.le_trans (Nat.le_succ _) m1.1, Nat.le_trans (Nat.le_add_right _ _) m1.2.1, m1.2.2⟩, fun p e Rm s m args below meth c H locs cells slots ls CX => ?_⟩
  have k : ∀ {H : Heap} {locs : List Loc} {cells slots : Nat} {ls : Array Slot}, Ctx base adr cA D p Rm s m args meth c d μ L h h' H locs cells slots ls → W p l e Rm s m args below meth c H locs cells slots (MQ below (QcOf base adr cA D r h') args s (cells + (hz h' - hz h)) (slots + (hs h' - hs h)) (Af base)) (F0 m (pc + 1) ls (List.map (upV adr) (.int (hI h i x.toNatClampNeg) :: S))) := fun {H locs cells slots ls} CX1 => k0 p e Rm s m args below meth c H locs cells slots ls CX1
  exact CX.iald ha hin hf (k CX)
theorem s_iast : cl_iast (X0 l base adr cA D) := by
  intro d μ pc L S h r h' i n x v hf ha hin hX
  obtain ⟨m1, k0⟩ := hX
  refine ⟨by first | exact m1 | exact ⟨Nat.le_trans (Nat.le_succ _) m1.1, Nat.le_trans (Nat.le_add_right _ _) m1.2.1, m1.2.2⟩, fun p e Rm s m args below meth c H locs cells slots ls CX => ?_⟩
  have k : ∀ {H : Heap} {locs : List Loc} {cells slots : Nat} {ls : Array Slot}, Ctx base adr cA D p Rm s m args meth c d μ L (putI h i x.toNatClampNeg v) h' H locs cells slots ls → W p l e Rm s m args below meth c H locs cells slots (MQ below (QcOf base adr cA D r h') args s (cells + (hz h' - hz (putI h i x.toNatClampNeg v))) (slots + (hs h' - hs (putI h i x.toNatClampNeg v))) (Af base)) (F0 m (pc + 1) ls (List.map (upV adr) S)) := fun {H locs cells slots ls} CX1 => k0 p e Rm s m args below meth c H locs cells slots ls CX1
  exact CX.iast ha hin hf (fun CX1 => k CX1)
theorem s_aald : cl_aald (X0 l base adr cA D) := by
  intro d μ pc L S h r h' i n e0 j x hf he ha hin hj hX
  obtain ⟨m1, k0⟩ := hX
  refine ⟨by first | exact m1 | exact ⟨Nat.le_trans (Nat.le_succ _) m1.1, Nat.le_trans (Nat.le_add_right _ _) m1.2.1, m1.2.2⟩, fun p e Rm s m args below meth c H locs cells slots ls CX => ?_⟩
  have k : ∀ {H : Heap} {locs : List Loc} {cells slots : Nat} {ls : Array Slot}, Ctx base adr cA D p Rm s m args meth c d μ L h h' H locs cells slots ls → W p l e Rm s m args below meth c H locs cells slots (MQ below (QcOf base adr cA D r h') args s (cells + (hz h' - hz h)) (slots + (hs h' - hs h)) (Af base)) (F0 m (pc + 1) ls (List.map (upV adr) (.ref j :: S))) := fun {H locs cells slots ls} CX1 => k0 p e Rm s m args below meth c H locs cells slots ls CX1
  exact CX.aald he ha hin (by rw [hj]; rfl) hf (k CX)
theorem s_aaldN : cl_aaldN (X0 l base adr cA D) := by
  intro d μ pc L S h r h' i n e0 x hf he ha hin hj hX
  obtain ⟨m1, k0⟩ := hX
  refine ⟨by first | exact m1 | exact ⟨Nat.le_trans (Nat.le_succ _) m1.1, Nat.le_trans (Nat.le_add_right _ _) m1.2.1, m1.2.2⟩, fun p e Rm s m args below meth c H locs cells slots ls CX => ?_⟩
  have k : ∀ {H : Heap} {locs : List Loc} {cells slots : Nat} {ls : Array Slot}, Ctx base adr cA D p Rm s m args meth c d μ L h h' H locs cells slots ls → W p l e Rm s m args below meth c H locs cells slots (MQ below (QcOf base adr cA D r h') args s (cells + (hz h' - hz h)) (slots + (hs h' - hs h)) (Af base)) (F0 m (pc + 1) ls (List.map (upV adr) (.null :: S))) := fun {H locs cells slots ls} CX1 => k0 p e Rm s m args below meth c H locs cells slots ls CX1
  exact CX.aald he ha hin (by rw [hj]; rfl) hf (k CX)
theorem s_aast : cl_aast (X0 l base adr cA D) := by
  intro d μ pc L S h r h' i n e0 j ci nc x hf he ha hin hb hX
  obtain ⟨m1, k0⟩ := hX
  refine ⟨by first | exact m1 | exact ⟨Nat.le_trans (Nat.le_succ _) m1.1, Nat.le_trans (Nat.le_add_right _ _) m1.2.1, m1.2.2⟩, fun p e Rm s m args below meth c H locs cells slots ls CX => ?_⟩
  have k : ∀ {H : Heap} {locs : List Loc} {cells slots : Nat} {ls : Array Slot}, Ctx base adr cA D p Rm s m args meth c d μ L (putR h i x.toNatClampNeg (some j)) h' H locs cells slots ls → W p l e Rm s m args below meth c H locs cells slots (MQ below (QcOf base adr cA D r h') args s (cells + (hz h' - hz (putR h i x.toNatClampNeg (some j)))) (slots + (hs h' - hs (putR h i x.toNatClampNeg (some j)))) (Af base)) (F0 m (pc + 1) ls (List.map (upV adr) S)) := fun {H locs cells slots ls} CX1 => k0 p e Rm s m args below meth c H locs cells slots ls CX1
  exact CX.aast he ha hin hb hf (fun CX1 => k CX1)
theorem s_aastS : cl_aastS (X0 l base adr cA D) := by
  intro d μ pc L S h r h' i n j x hf ha hin hb hX
  obtain ⟨m1, k0⟩ := hX
  refine ⟨by first | exact m1 | exact ⟨Nat.le_trans (Nat.le_succ _) m1.1, Nat.le_trans (Nat.le_add_right _ _) m1.2.1, m1.2.2⟩, fun p e Rm s m args below meth c H locs cells slots ls CX => ?_⟩
  have k : ∀ {H : Heap} {locs : List Loc} {cells slots : Nat} {ls : Array Slot}, Ctx base adr cA D p Rm s m args meth c d μ L (putR h i x.toNatClampNeg (some (1000000 + j))) h' H locs cells slots ls → W p l e Rm s m args below meth c H locs cells slots (MQ below (QcOf base adr cA D r h') args s (cells + (hz h' - hz (putR h i x.toNatClampNeg (some (1000000 + j))))) (slots + (hs h' - hs (putR h i x.toNatClampNeg (some (1000000 + j))))) (Af base)) (F0 m (pc + 1) ls (List.map (upV adr) S)) := fun {H locs cells slots ls} CX1 => k0 p e Rm s m args below meth c H locs cells slots ls CX1
  exact CX.aastS ha hin hb hf (fun CX1 => k CX1)
theorem s_alen : cl_alen (X0 l base adr cA D) := by
  intro d μ pc L S h r h' i t n hf ht ha hX
  obtain ⟨m1, k0⟩ := hX
  refine ⟨by first | exact m1 | exact ⟨Nat.le_trans (Nat.le_succ _) m1.1, Nat.le_trans (Nat.le_add_right _ _) m1.2.1, m1.2.2⟩, fun p e Rm s m args below meth c H locs cells slots ls CX => ?_⟩
  have k : ∀ {H : Heap} {locs : List Loc} {cells slots : Nat} {ls : Array Slot}, Ctx base adr cA D p Rm s m args meth c d μ L h h' H locs cells slots ls → W p l e Rm s m args below meth c H locs cells slots (MQ below (QcOf base adr cA D r h') args s (cells + (hz h' - hz h)) (slots + (hs h' - hs h)) (Af base)) (F0 m (pc + 1) ls (List.map (upV adr) (.int (Int32.ofNat n) :: S))) := fun {H locs cells slots ls} CX1 => k0 p e Rm s m args below meth c H locs cells slots ls CX1
  exact CX.alen ht ha hf (k CX)
theorem s_newa : cl_newa (X0 l base adr cA D) := by
  intro d μ pc L S h r h' x n hf hx0 hn hb hz0 hX
  obtain ⟨m1, k0⟩ := hX
  refine ⟨by first | exact m1 | exact ⟨Nat.le_trans (Nat.le_succ _) m1.1, Nat.le_trans (Nat.le_add_right _ _) m1.2.1, m1.2.2⟩, fun p e Rm s m args below meth c H locs cells slots ls CX => ?_⟩
  have k : ∀ {H : Heap} {locs : List Loc} {cells slots : Nat} {ls : Array Slot}, Ctx base adr cA D p Rm s m args meth c d μ L (alloc h 100 n) h' H locs cells slots ls → W p l e Rm s m args below meth c H locs cells slots (MQ below (QcOf base adr cA D r h') args s (cells + (hz h' - hz (alloc h 100 n))) (slots + (hs h' - hs (alloc h 100 n))) (Af base)) (F0 m (pc + 2) ls (List.map (upV adr) (.ref (hz h) :: S))) := fun {H locs cells slots ls} CX1 => k0 p e Rm s m args below meth c H locs cells slots ls CX1
  exact CX.newa (Q := fun a b => MQ below (QcOf base adr cA D r h') args s a b (Af base)) m1.1 m1.2.1 hx0 hn hb hz0 hf (fun CX1 => k CX1)
theorem s_anew : cl_anew (X0 l base adr cA D) := by
  intro d μ pc L S h r h' x n e0 idx Cn hf he hl hx0 hn hb hz0 hX
  obtain ⟨m1, k0⟩ := hX
  refine ⟨by first | exact m1 | exact ⟨Nat.le_trans (Nat.le_succ _) m1.1, Nat.le_trans (Nat.le_add_right _ _) m1.2.1, m1.2.2⟩, fun p e Rm s m args below meth c H locs cells slots ls CX => ?_⟩
  have k : ∀ {H : Heap} {locs : List Loc} {cells slots : Nat} {ls : Array Slot}, Ctx base adr cA D p Rm s m args meth c d μ L (alloc h (101 + e0) n) h' H locs cells slots ls → W p l e Rm s m args below meth c H locs cells slots (MQ below (QcOf base adr cA D r h') args s (cells + (hz h' - hz (alloc h (101 + e0) n))) (slots + (hs h' - hs (alloc h (101 + e0) n))) (Af base)) (F0 m (pc + 3) ls (List.map (upV adr) (.ref (hz h) :: S))) := fun {H locs cells slots ls} CX1 => k0 p e Rm s m args below meth c H locs cells slots ls CX1
  exact CX.anew (Q := fun a b => MQ below (QcOf base adr cA D r h') args s a b (Af base)) m1.1 m1.2.1 he hl hx0 hn hb hz0 hf (fun CX1 => k CX1)
theorem s_new : cl_new (X0 l base adr cA D) := by
  intro d μ pc L S h r h' idx ci n hf hl hz0 hX
  obtain ⟨m1, k0⟩ := hX
  refine ⟨by first | exact m1 | exact ⟨Nat.le_trans (Nat.le_succ _) m1.1, Nat.le_trans (Nat.le_add_right _ _) m1.2.1, m1.2.2⟩, fun p e Rm s m args below meth c H locs cells slots ls CX => ?_⟩
  have k : ∀ {H : Heap} {locs : List Loc} {cells slots : Nat} {ls : Array Slot}, Ctx base adr cA D p Rm s m args meth c d μ L (alloc h ci n) h' H locs cells slots ls → W p l e Rm s m args below meth c H locs cells slots (MQ below (QcOf base adr cA D r h') args s (cells + (hz h' - hz (alloc h ci n))) (slots + (hs h' - hs (alloc h ci n))) (Af base)) (F0 m (pc + 3) ls (List.map (upV adr) (.ref (hz h) :: S))) := fun {H locs cells slots ls} CX1 => k0 p e Rm s m args below meth c H locs cells slots ls CX1
  exact CX.newo (Q := fun a b => MQ below (QcOf base adr cA D r h') args s a b (Af base)) m1.1 m1.2.1 hl hz0 hf (fun CX1 => k CX1)
theorem s_strV : cl_strV (X0 l base adr cA D) := by
  intro d μ pc L S h r h' j idx hf hl hj hX
  obtain ⟨m1, k0⟩ := hX
  refine ⟨by first | exact m1 | exact ⟨Nat.le_trans (Nat.le_succ _) m1.1, Nat.le_trans (Nat.le_add_right _ _) m1.2.1, m1.2.2⟩, fun p e Rm s m args below meth c H locs cells slots ls CX => ?_⟩
  have k : ∀ {H : Heap} {locs : List Loc} {cells slots : Nat} {ls : Array Slot}, Ctx base adr cA D p Rm s m args meth c d μ L h h' H locs cells slots ls → W p l e Rm s m args below meth c H locs cells slots (MQ below (QcOf base adr cA D r h') args s (cells + (hz h' - hz h)) (slots + (hs h' - hs h)) (Af base)) (F0 m (pc + 3) ls (List.map (upV adr) (.ref (1000100 + j) :: S))) := fun {H locs cells slots ls} CX1 => k0 p e Rm s m args below meth c H locs cells slots ls CX1
  exact vk_getf CX.hx CX.hb (CX.henv.2.2.2.2.1 j hj).2.2.1 CX.hS CX.hown (CX.hts _ hl) (fun _ z => z) hf (k CX)
theorem s_strC : cl_strC (X0 l base adr cA D) := by
  intro d μ pc L S h r h' j idx hf hl hj hX
  obtain ⟨m1, k0⟩ := hX
  refine ⟨by first | exact m1 | exact ⟨Nat.le_trans (Nat.le_succ _) m1.1, Nat.le_trans (Nat.le_add_right _ _) m1.2.1, m1.2.2⟩, fun p e Rm s m args below meth c H locs cells slots ls CX => ?_⟩
  have k : ∀ {H : Heap} {locs : List Loc} {cells slots : Nat} {ls : Array Slot}, Ctx base adr cA D p Rm s m args meth c d μ L h h' H locs cells slots ls → W p l e Rm s m args below meth c H locs cells slots (MQ below (QcOf base adr cA D r h') args s (cells + (hz h' - hz h)) (slots + (hs h' - hs h)) (Af base)) (F0 m (pc + 3) ls (List.map (upV adr) (.int 0 :: S))) := fun {H locs cells slots ls} CX1 => k0 p e Rm s m args below meth c H locs cells slots ls CX1
  exact vk_getf CX.hx CX.hb (CX.henv.2.2.2.2.1 j hj).2.1 CX.hS CX.hown (CX.hts _ hl) (fun _ z => z) hf (k CX)
theorem s_bald : cl_bald (X0 l base adr cA D) := by
  intro d μ pc L S h r h' j x hf hj hin hX
  obtain ⟨m1, k0⟩ := hX
  refine ⟨by first | exact m1 | exact ⟨Nat.le_trans (Nat.le_succ _) m1.1, Nat.le_trans (Nat.le_add_right _ _) m1.2.1, m1.2.2⟩, fun p e Rm s m args below meth c H locs cells slots ls CX => ?_⟩
  have k : ∀ {H : Heap} {locs : List Loc} {cells slots : Nat} {ls : Array Slot}, Ctx base adr cA D p Rm s m args meth c d μ L h h' H locs cells slots ls → W p l e Rm s m args below meth c H locs cells slots (MQ below (QcOf base adr cA D r h') args s (cells + (hz h' - hz h)) (slots + (hs h' - hs h)) (Af base)) (F0 m (pc + 1) ls (List.map (upV adr) (.int ((strs.getD j []).getD x.toNatClampNeg 0) :: S))) := fun {H locs cells slots ls} CX1 => k0 p e Rm s m args below meth c H locs cells slots ls CX1
  exact va_tb CX.hx CX.hb (CX.henv.2.2.2.2.1 j hj).2.2.2 CX.hS hin rfl hf (k CX)
theorem s_blen : cl_blen (X0 l base adr cA D) := by
  intro d μ pc L S h r h' j hf hj hX
  obtain ⟨m1, k0⟩ := hX
  refine ⟨by first | exact m1 | exact ⟨Nat.le_trans (Nat.le_succ _) m1.1, Nat.le_trans (Nat.le_add_right _ _) m1.2.1, m1.2.2⟩, fun p e Rm s m args below meth c H locs cells slots ls CX => ?_⟩
  have k : ∀ {H : Heap} {locs : List Loc} {cells slots : Nat} {ls : Array Slot}, Ctx base adr cA D p Rm s m args meth c d μ L h h' H locs cells slots ls → W p l e Rm s m args below meth c H locs cells slots (MQ below (QcOf base adr cA D r h') args s (cells + (hz h' - hz h)) (slots + (hs h' - hs h)) (Af base)) (F0 m (pc + 1) ls (List.map (upV adr) (.int (Int32.ofNat (strs.getD j []).length) :: S))) := fun {H locs cells slots ls} CX1 => k0 p e Rm s m args below meth c H locs cells slots ls CX1
  exact va_tlen CX.hx CX.hb (CX.henv.2.2.2.2.1 j hj).2.2.2 CX.hS rfl hf (k CX)
theorem s_gsC : cl_gsC (X0 l base adr cA D) := by
  intro d μ pc L S h r h' idx hf hl hX
  obtain ⟨m1, k0⟩ := hX
  refine ⟨by first | exact m1 | exact ⟨Nat.le_trans (Nat.le_succ _) m1.1, Nat.le_trans (Nat.le_add_right _ _) m1.2.1, m1.2.2⟩, fun p e Rm s m args below meth c H locs cells slots ls CX => ?_⟩
  have k : ∀ {H : Heap} {locs : List Loc} {cells slots : Nat} {ls : Array Slot}, Ctx base adr cA D p Rm s m args meth c d μ L h h' H locs cells slots ls → W p l e Rm s m args below meth c H locs cells slots (MQ below (QcOf base adr cA D r h') args s (cells + (hz h' - hz h)) (slots + (hs h' - hs h)) (Af base)) (F0 m (pc + 3) ls (List.map (upV adr) (.int 1 :: S))) := fun {H locs cells slots ls} CX1 => k0 p e Rm s m args below meth c H locs cells slots ls CX1
  exact va_gets CX.hx CX.hb CX.henv.2.2.2.2.2.1 CX.hS CX.hown (CX.hts _ hl) (fun _ z => z) hf (k CX)
theorem s_gsF : cl_gsF (X0 l base adr cA D) := by
  intro d μ pc L S h r h' idx hf hl hX
  obtain ⟨m1, k0⟩ := hX
  refine ⟨by first | exact m1 | exact ⟨Nat.le_trans (Nat.le_succ _) m1.1, Nat.le_trans (Nat.le_add_right _ _) m1.2.1, m1.2.2⟩, fun p e Rm s m args below meth c H locs cells slots ls CX => ?_⟩
  have k : ∀ {H : Heap} {locs : List Loc} {cells slots : Nat} {ls : Array Slot}, Ctx base adr cA D p Rm s m args meth c d μ L h h' H locs cells slots ls → W p l e Rm s m args below meth c H locs cells slots (MQ below (QcOf base adr cA D r h') args s (cells + (hz h' - hz h)) (slots + (hs h' - hs h)) (Af base)) (F0 m (pc + 3) ls (List.map (upV adr) (h.1.2.2 :: S))) := fun {H locs cells slots ls} CX1 => k0 p e Rm s m args below meth c H locs cells slots ls CX1
  exact va_gets CX.hx CX.hb CX.henv.2.2.2.2.2.2.1 CX.hS CX.hown (CX.hts _ hl) (fun _ z => z) hf (k CX)
theorem s_gsA : cl_gsA (X0 l base adr cA D) := by
  intro d μ pc L S h r h' idx hf hl hX
  obtain ⟨m1, k0⟩ := hX
  refine ⟨by first | exact m1 | exact ⟨Nat.le_trans (Nat.le_succ _) m1.1, Nat.le_trans (Nat.le_add_right _ _) m1.2.1, m1.2.2⟩, fun p e Rm s m args below meth c H locs cells slots ls CX => ?_⟩
  have k : ∀ {H : Heap} {locs : List Loc} {cells slots : Nat} {ls : Array Slot}, Ctx base adr cA D p Rm s m args meth c d μ L h h' H locs cells slots ls → W p l e Rm s m args below meth c H locs cells slots (MQ below (QcOf base adr cA D r h') args s (cells + (hz h' - hz h)) (slots + (hs h' - hs h)) (Af base)) (F0 m (pc + 3) ls (List.map (upV adr) (.ref 1000200 :: S))) := fun {H locs cells slots ls} CX1 => k0 p e Rm s m args below meth c H locs cells slots ls CX1
  exact va_getsN CX.hx CX.hb CX.henv.2.2.2.2.2.2.2.1 CX.hS CX.hown (va_Nw.use rfl (CX.henv.2.1 _ hl)) (fun _ z => z) hf (k CX)
theorem s_abld : cl_abld (X0 l base adr cA D) := by
  intro d μ pc L S h r h' x hf hin hX
  obtain ⟨m1, k0⟩ := hX
  refine ⟨by first | exact m1 | exact ⟨Nat.le_trans (Nat.le_succ _) m1.1, Nat.le_trans (Nat.le_add_right _ _) m1.2.1, m1.2.2⟩, fun p e Rm s m args below meth c H locs cells slots ls CX => ?_⟩
  have k : ∀ {H : Heap} {locs : List Loc} {cells slots : Nat} {ls : Array Slot}, Ctx base adr cA D p Rm s m args meth c d μ L h h' H locs cells slots ls → W p l e Rm s m args below meth c H locs cells slots (MQ below (QcOf base adr cA D r h') args s (cells + (hz h' - hz h)) (slots + (hs h' - hs h)) (Af base)) (F0 m (pc + 1) ls (List.map (upV adr) (.int (aboveL.getD x.toNatClampNeg 0) :: S))) := fun {H locs cells slots ls} CX1 => k0 p e Rm s m args below meth c H locs cells slots ls CX1
  exact va_ti CX.hx CX.hb CX.henv.2.2.2.2.2.2.2.2.1 CX.hS hin rfl hf (k CX)
theorem s_scld : cl_scld (X0 l base adr cA D) := by
  intro d μ pc L S h r h' x hf hin hX
  obtain ⟨m1, k0⟩ := hX
  refine ⟨by first | exact m1 | exact ⟨Nat.le_trans (Nat.le_succ _) m1.1, Nat.le_trans (Nat.le_add_right _ _) m1.2.1, m1.2.2⟩, fun p e Rm s m args below meth c H locs cells slots ls CX => ?_⟩
  have k : ∀ {H : Heap} {locs : List Loc} {cells slots : Nat} {ls : Array Slot}, Ctx base adr cA D p Rm s m args meth c d μ L h h' H locs cells slots ls → W p l e Rm s m args below meth c H locs cells slots (MQ below (QcOf base adr cA D r h') args s (cells + (hz h' - hz h)) (slots + (hs h' - hs h)) (Af base)) (F0 m (pc + 1) ls (List.map (upV adr) (.int (h.1.1 x.toNatClampNeg) :: S))) := fun {H locs cells slots ls} CX1 => k0 p e Rm s m args below meth c H locs cells slots ls CX1
  exact va_sld CX.hx CX.hb CX.henv.2.2.2.2.2.2.2.2.2.1 CX.henv.2.2.2.2.2.2.2.2.2.2.1 (Nat.not_le.mpr CX.henv.2.2.2.2.2.2.2.2.2.2.2) CX.hS hin hf (k CX)
theorem s_sclen : cl_sclen (X0 l base adr cA D) := by
  intro d μ pc L S h r h'  hf  hX
  obtain ⟨m1, k0⟩ := hX
  refine ⟨by first | exact m1 | exact ⟨Nat.le_trans (Nat.le_succ _) m1.1, Nat.le_trans (Nat.le_add_right _ _) m1.2.1, m1.2.2⟩, fun p e Rm s m args below meth c H locs cells slots ls CX => ?_⟩
  have k : ∀ {H : Heap} {locs : List Loc} {cells slots : Nat} {ls : Array Slot}, Ctx base adr cA D p Rm s m args meth c d μ L h h' H locs cells slots ls → W p l e Rm s m args below meth c H locs cells slots (MQ below (QcOf base adr cA D r h') args s (cells + (hz h' - hz h)) (slots + (hs h' - hs h)) (Af base)) (F0 m (pc + 1) ls (List.map (upV adr) (.int (Int32.ofNat h.1.2.1) :: S))) := fun {H locs cells slots ls} CX1 => k0 p e Rm s m args below meth c H locs cells slots ls CX1
  exact va_slen CX.hx CX.hb CX.henv.2.2.2.2.2.2.2.2.2.1 CX.henv.2.2.2.2.2.2.2.2.2.2.1 (Nat.not_le.mpr CX.henv.2.2.2.2.2.2.2.2.2.2.2) CX.hS hf (k CX)
theorem s_acopy : cl_acopy (X0 l base adr cA D) := by
  intro d μ pc L S h r h' idx i j n0 n1 sp dp n hf hl hd hS ha hb h1 h2 h3 h4 h5 hX
  obtain ⟨m1, k0⟩ := hX
  refine ⟨by first | exact m1 | exact ⟨Nat.le_trans (Nat.le_succ _) m1.1, Nat.le_trans (Nat.le_add_right _ _) m1.2.1, m1.2.2⟩, fun p e Rm s m args below meth c H locs cells slots ls CX => ?_⟩
  have k : ∀ {H : Heap} {locs : List Loc} {cells slots : Nat} {ls : Array Slot}, Ctx base adr cA D p Rm s m args meth c d μ L (rowI h j (va_cpy (hI h i) (hI h j) sp.toNatClampNeg dp.toNatClampNeg n.toNatClampNeg)) h' H locs cells slots ls → W p l e Rm s m args below meth c H locs cells slots (MQ below (QcOf base adr cA D r h') args s (cells + (hz h' - hz (rowI h j (va_cpy (hI h i) (hI h j) sp.toNatClampNeg dp.toNatClampNeg n.toNatClampNeg)))) (slots + (hs h' - hs (rowI h j (va_cpy (hI h i) (hI h j) sp.toNatClampNeg dp.toNatClampNeg n.toNatClampNeg)))) (Af base)) (F0 m (pc + 3) ls (List.map (upV adr) S)) := fun {H locs cells slots ls} CX1 => k0 p e Rm s m args below meth c H locs cells slots ls CX1
  exact CX.acopy hl hd hS ha hb h1 h2 h3 h4 h5 hf (fun CX1 => k CX1)
theorem s_objInit : cl_objInit (X0 l base adr cA D) := by
  intro d μ pc L S h r h' idx i hf hl hd hS hX
  obtain ⟨m1, k0⟩ := hX
  refine ⟨by first | exact m1 | exact ⟨Nat.le_trans (Nat.le_succ _) m1.1, Nat.le_trans (Nat.le_add_right _ _) m1.2.1, m1.2.2⟩, fun p e Rm s m args below meth c H locs cells slots ls CX => ?_⟩
  have k : ∀ {H : Heap} {locs : List Loc} {cells slots : Nat} {ls : Array Slot}, Ctx base adr cA D p Rm s m args meth c d μ L h h' H locs cells slots ls → W p l e Rm s m args below meth c H locs cells slots (MQ below (QcOf base adr cA D r h') args s (cells + (hz h' - hz h)) (slots + (hs h' - hs h)) (Af base)) (F0 m (pc + 3) ls (List.map (upV adr) S)) := fun {H locs cells slots ls} CX1 => k0 p e Rm s m args below meth c H locs cells slots ls CX1
  exact CX.objI hl hd hS hf (k CX)
theorem s_mmax : cl_mmax (X0 l base adr cA D) := by
  intro d μ pc L S h r h' idx x y hf hl hd hS hX
  obtain ⟨m1, k0⟩ := hX
  refine ⟨by first | exact m1 | exact ⟨Nat.le_trans (Nat.le_succ _) m1.1, Nat.le_trans (Nat.le_add_right _ _) m1.2.1, m1.2.2⟩, fun p e Rm s m args below meth c H locs cells slots ls CX => ?_⟩
  have k : ∀ {H : Heap} {locs : List Loc} {cells slots : Nat} {ls : Array Slot}, Ctx base adr cA D p Rm s m args meth c d μ L h h' H locs cells slots ls → W p l e Rm s m args below meth c H locs cells slots (MQ below (QcOf base adr cA D r h') args s (cells + (hz h' - hz h)) (slots + (hs h' - hs h)) (Af base)) (F0 m (pc + 3) ls (List.map (upV adr) (.int (jmax x y) :: S))) := fun {H locs cells slots ls} CX1 => k0 p e Rm s m args below meth c H locs cells slots ls CX1
  have g3 := CX.hrm
  have hc8 := cat_up (adr := adr) S hS
  exact va_mmax CX.hx CX.hb (CX.hml.trans CX.hlr.2.1.symm) CX.hown (CX.hts _ hl) (CX.hts _ gw_mmaxs) (CX.hts _ gw_math) (CX.hts _ gw_mmaxc) (by omega) (by omega) (by omega) (by omega) hf (k CX)
theorem s_mmin : cl_mmin (X0 l base adr cA D) := by
  intro d μ pc L S h r h' idx x y hf hl hd hS hX
  obtain ⟨m1, k0⟩ := hX
  refine ⟨by first | exact m1 | exact ⟨Nat.le_trans (Nat.le_succ _) m1.1, Nat.le_trans (Nat.le_add_right _ _) m1.2.1, m1.2.2⟩, fun p e Rm s m args below meth c H locs cells slots ls CX => ?_⟩
  have k : ∀ {H : Heap} {locs : List Loc} {cells slots : Nat} {ls : Array Slot}, Ctx base adr cA D p Rm s m args meth c d μ L h h' H locs cells slots ls → W p l e Rm s m args below meth c H locs cells slots (MQ below (QcOf base adr cA D r h') args s (cells + (hz h' - hz h)) (slots + (hs h' - hs h)) (Af base)) (F0 m (pc + 3) ls (List.map (upV adr) (.int (jmin x y) :: S))) := fun {H locs cells slots ls} CX1 => k0 p e Rm s m args below meth c H locs cells slots ls CX1
  have g3 := CX.hrm
  have hc8 := cat_up (adr := adr) S hS
  exact va_mmin CX.hx CX.hb (CX.hml.trans CX.hlr.2.1.symm) CX.hown (CX.hts _ hl) (CX.hts _ gw_mmins) (CX.hts _ gw_math) (CX.hts _ gw_mminc) (by omega) (by omega) (by omega) (by omega) hf (k CX)
theorem s_mabs : cl_mabs (X0 l base adr cA D) := by
  intro d μ pc L S h r h' idx x hf hl hd hS hX
  obtain ⟨m1, k0⟩ := hX
  refine ⟨by first | exact m1 | exact ⟨Nat.le_trans (Nat.le_succ _) m1.1, Nat.le_trans (Nat.le_add_right _ _) m1.2.1, m1.2.2⟩, fun p e Rm s m args below meth c H locs cells slots ls CX => ?_⟩
  have k : ∀ {H : Heap} {locs : List Loc} {cells slots : Nat} {ls : Array Slot}, Ctx base adr cA D p Rm s m args meth c d μ L h h' H locs cells slots ls → W p l e Rm s m args below meth c H locs cells slots (MQ below (QcOf base adr cA D r h') args s (cells + (hz h' - hz h)) (slots + (hs h' - hs h)) (Af base)) (F0 m (pc + 3) ls (List.map (upV adr) (.int (jabs x) :: S))) := fun {H locs cells slots ls} CX1 => k0 p e Rm s m args below meth c H locs cells slots ls CX1
  have g3 := CX.hrm
  have hc8 := cat_up (adr := adr) S hS
  exact va_mabs CX.hx CX.hb (CX.hml.trans CX.hlr.2.1.symm) CX.hown (CX.hts _ hl) (CX.hts _ gw_mabss) (CX.hts _ gw_math) (CX.hts _ gw_mabsc) (by omega) (by omega) (by omega) (by omega) hf (k CX)
def PcOf (base : Nat) (adr : Nat → Nat) (cA : Nat → ClassId) (D : va_G) (As : List Value) (h : MH) : Array Value → State → Prop := va_Pc (As.map (upV adr)) (fun U => EnvOK base adr cA D h.1 U ∧ U.heap.size = base + hz h ∧ (∀ i, i < 1000000 → adr i = base + i) ∧ HL base adr cA D h U.heap)
theorem Pc_blind {As : List Value} {h : MH} : FrameBlind (PcOf base adr cA D As h) := fun _ _ _ _ q => ⟨q.1, q.2.1.blind rfl rfl, q.2.2⟩
theorem args_mem : ∀ (vs : List Value) (k i : Nat) (v : Value), (∀ w ∈ vs, w.category = 1) → vs[i]? = some v → (k + i, v) ∈ lv_args k vs
  | [], k, i, v, _, h => by simp at h
  | w :: vs, k, i, v, hc, h => by
    unfold lv_args
    cases i with
    | zero =>
      simp at h
      subst h
      exact List.mem_cons_self
    | succ i =>
      rw [List.getElem?_cons_succ] at h
      have h1 : w.category = 1 := hc w List.mem_cons_self
      rw [if_neg (by rw [h1]; decide)]
      have := args_mem vs (k + 1) i v (fun x hx => hc x (List.mem_cons_of_mem _ hx)) h
      rw [show k + 1 + i = k + (i + 1) by omega] at this
      exact List.mem_cons_of_mem _ this
theorem sl_len : ∀ (vs : List Value), (∀ w ∈ vs, w.category = 1) → (lg_sl vs).length = vs.length
  | [], _ => rfl
  | w :: vs, hc => by
    have h1 : w.category = 1 := hc w List.mem_cons_self
    have := sl_len vs (fun x hx => hc x (List.mem_cons_of_mem _ hx))
    unfold lg_sl at *
    rw [List.flatMap_cons, if_neg (by rw [h1]; decide), List.length_append, this]
    simp
    omega
theorem lr_entry {As : List Value} {n : Nat} (h : okA As n = true) : LR adr (ent As n) ((lg_sl (As.map (upV adr)) ++ List.replicate (n - (lg_sl (As.map (upV adr))).length) Slot.unset).toArray) n := by
  unfold okA at h
  simp only [Bool.and_eq_true, List.all_eq_true, decide_eq_true_eq, beq_iff_eq] at h
  have hc : ∀ w ∈ As.map (upV adr), w.category = 1 := by
    intro w hw
    obtain ⟨v, hv, rfl⟩ := List.mem_map.mp hw
    rw [up_cat]
    exact h.1 v hv
  have hl := lv_entry (As.map (upV adr)) (n := n) (by rw [sl_len _ hc, List.length_map]; exact h.2)
  refine ⟨by simp [ent]; omega, hl.1, hl.2.1, fun i v hi => ?_⟩
  have hv : As[i]? = some v := by
    unfold ent at hi
    by_cases hlt : i < As.length
    · rw [List.getElem?_append_left (by rw [List.length_map]; exact hlt), List.getElem?_map] at hi
      cases ho : As[i]? with
      | none => rw [ho] at hi; cases hi
      | some w => rw [ho] at hi; simp at hi; rw [hi]
    · rw [List.getElem?_append_right (by rw [List.length_map]; omega)] at hi
      have := List.mem_of_getElem? hi
      rw [List.mem_replicate] at this
      cases this.2
  have hm := args_mem (As.map (upV adr)) 0 i (upV adr v) hc (by rw [List.getElem?_map, hv]; rfl)
  rw [Nat.zero_add] at hm
  exact ⟨hl.2.2 _ hm, h.1 v (List.mem_of_getElem? hv)⟩
theorem Met_of {d1 : Nat} {ν : Mth} {As : List Value} {h h1 : MH} {r1 : Option Value} (k1 : X0 l base adr cA D d1 ν 0 (ent As ν.2.2.1) [] h r1 h1) (hpl : plainName ν.1.cls = true) (hA : okA As ν.2.2.1 = true) : Met l ν.1 (Cond.code ν.1 ν.2.1 ν.2.2.1 ν.2.2.2 :: GW) { frames := d1, cells := hz h1 - hz h, slots := hs h1 - hs h, locals := 48 * d1 } (PcOf base adr cA D As h) (QcOf base adr cA D r1 h1) (hz h1 - hz h) (hs h1 - hs h) (Af base) := by
  refine Met.ofW (cc := ν.2.1) (maxL := ν.2.2.1) (ret := ν.2.2.2) hpl rfl ?_
  intro p e s m args below meth c s₁ B hml hv
  obtain ⟨rfl, hE, hsz, had, hHL⟩ := hv
  have hts := atoms_spec (ws := Cond.code ν.1 ν.2.1 ν.2.2.1 ν.2.2.2 :: GW) B.pre
  rw [lg_entry_eq]
  have := k1.2 p e (headSpec (Cond.code ν.1 ν.2.1 ν.2.2.1 ν.2.2.2 :: GW) { frames := d1, cells := hz h1 - hz h, slots := hs h1 - hs h, locals := 48 * d1 }).room s m _ below meth c s.heap [] 0 0 _ ⟨⟨B.exec, B.bytes, hml, findClass_of_methodNamed B.named, fun w hw => hts w (List.mem_cons_of_mem _ hw), B.returns, B.notSynchronized, (name_of_methodNamed B.named B.method).1⟩, hE, ⟨by omega, had, by omega⟩, va_S.rf, hHL, lr_entry hA, Nat.le_refl _, Nat.le_refl _, Nat.le_of_eq (Nat.zero_add _), Nat.le_of_eq (Nat.zero_add _)⟩
  rw [Nat.zero_add, Nat.zero_add] at this
  exact this
theorem good_code {ν : Mth} (hcode : Cond.code ν.1 ν.2.1 ν.2.2.1 ν.2.2.2 ∈ GW) : GoodIn GW (Cond.code ν.1 ν.2.1 ν.2.2.1 ν.2.2.2 :: GW) := by
  intro w hw
  have hm : w ∈ GW := by
    rcases List.mem_cons.mp hw with rfl | h
    · exact hcode
    · exact h
  exact ⟨hm, good_of_word (List.mem_filter.mp hm).2⟩
section AFT
variable {p : Program} {e : Env} {Rm : Room} {s : State} {m : MethodId} {args : Array Value} {below : List Frame} {meth : Method} {c : Code} {d : Nat} {μ : Mth} {L : Lcl} {h h' h1 : MH} {H : Heap} {locs : List Loc} {cells slots : Nat} {ls : Array Slot} {pc : Nat}
theorem Ctx.after {Q : Nat → Nat → State → Prop} {st0 S : List Value} {r1 : Option Value} {a : Array Value} (X : Ctx base adr cA D p Rm s m args meth c d μ L h h' H locs cells slots ls) (m1 : hz h ≤ hz h1 ∧ hs h ≤ hs h1 ∧ h1.1 = h.1) (m2 : hz h1 ≤ hz h' ∧ hs h1 ≤ hs h' ∧ h'.1 = h1.1)
    (hr : va_Run p l e Rm s m args below meth c H locs cells slots (hz h1 - hz h) (hs h1 - hs h) (F0 m pc ls st0) (S.map (upV adr)) (QcOf base adr cA D r1 h1 a) (Af base))
    (kk : ∀ {H1 : Heap} {locs1 : List Loc} {cells1 slots1 : Nat}, Ctx base adr cA D p Rm s m args meth c d μ L h1 h' H1 locs1 cells1 slots1 ls → W p l e Rm s m args below meth c H1 locs1 cells1 slots1 (Q (cells1 + (hz h' - hz h1)) (slots1 + (hs h' - hs h1))) (F0 m (pc + 3) ls ((psh r1 S).map (upV adr)))) : W p l e Rm s m args below meth c H locs cells slots (Q (cells + (hz h' - hz h)) (slots + (hs h' - hs h))) (F0 m pc ls st0) := by
  intro T hT Y
  obtain ⟨v, st₀, t, T', Lc, h0, Y', hLc, e1, e2, ⟨hv, hHL, hF⟩, st⟩ := hr T hT Y
  have hv : v = r1.map (upV adr) := by cases hv; rfl
  subst hv
  have g2 := X.hbs
  have g3 := X.hrm
  have q1 : cells + (hz h' - hz h) = cells + (hz h1 - hz h) + (hz h' - hz h1) := by omega
  have q2 : slots + (hs h' - hs h) = slots + (hs h1 - hs h) + (hs h' - hs h1) := by omega
  unfold va_F at hF
  rw [h0] at hF
  have CX1 : Ctx base adr cA D p Rm s m args meth c d μ L h1 h' T'.heap (locs ++ Lc) (cells + (hz h1 - hz h)) (slots + (hs h1 - hs h)) ls := by
    refine ⟨X.1, by rw [m1.2.2]; exact X.2.1, ⟨g2.1, g2.2.1, by omega⟩, ⟨?_, ?_, ?_⟩, by rw [e1]; exact hHL, X.hlr, g3.1, g3.2.1, by omega, by omega⟩
    · rw [e1]
      exact Nat.le_trans X.hS.1 hF.1
    · intro q b1 b2
      rw [e1, hF.2 q (Nat.lt_of_lt_of_le b1 X.hS.1) b2]
      exact X.hS.2.1 q b1 b2
    · intro q hq
      rcases List.mem_append.mp hq with b | b
      · exact X.hS.2.2 q b
      · exact hLc q b
  obtain ⟨t2, a1, b1⟩ := kk CX1 T' rfl Y'
  rw [← q1, ← q2] at b1
  refine ⟨t2, st t2 ?_, b1⟩
  cases r1 with
  | none => exact a1
  | some w => exact a1
theorem Ctx.cb {idx : Nat} {ν : Mth} {As : List Value} {d1 : Nat} (X : Ctx base adr cA D p Rm s m args meth c d μ L h h' H locs cells slots ls) (hd : d1 < d) (ho : MOk ν As.length) (hl : Cond.methodLink μ.1.cls idx ν.1 ∈ GW) (mc ms : Nat) : CallB Rm s args μ.1.cls idx ν.1 ν.2.1 ν.2.2.1 ν.2.2.2 (Cond.code ν.1 ν.2.1 ν.2.2.1 ν.2.2.2 :: GW) { frames := d1, cells := mc, slots := ms, locals := 48 * d1 } mc ms As.length := by
  obtain ⟨o1, o2, o3, o4, o5, o6, o7⟩ := ho
  have g3 := X.hrm
  exact callB_of As.length X.hts (good_code o1) rfl rfl rfl (X.hts _ o2) (X.hts _ hl) ⟨o5, o6, o7⟩ ⟨by show d1 + 1 ≤ _; omega, by show 8 + (ν.2.2.1 + 11) + 48 * d1 ≤ _; omega⟩
theorem Ctx.cn {idx : Nat} {ν : Mth} {As : List Value} {d1 : Nat} (X : Ctx base adr cA D p Rm s m args meth c d μ L h h' H locs cells slots ls) (hd : d1 < d) (ho : MOk ν As.length) (hl : Cond.methodLinkNest μ.1.cls idx ν.1 "ShortCut" ∈ NW) (mc ms : Nat) : va_CN Rm s args μ.1.cls idx ν.1 "ShortCut" ν.2.1 ν.2.2.1 ν.2.2.2 (Cond.code ν.1 ν.2.1 ν.2.2.1 ν.2.2.2 :: GW) { frames := d1, cells := mc, slots := ms, locals := 48 * d1 } mc ms As.length := by
  obtain ⟨o1, o2, o3, o4, o5, o6, o7⟩ := ho
  have g3 := X.hrm
  exact va_cnB As.length X.hts (good_code o1) rfl rfl rfl (X.henv.2.1 _ hl) (X.hts _ o2) ⟨o5, o6, o7⟩ ⟨by show d1 + 1 ≤ _; omega, by show 8 + (ν.2.2.1 + 11) + 48 * d1 ≤ _; omega⟩
theorem Ctx.hpc {As : List Value} {U : State} (X : Ctx base adr cA D p Rm s m args meth c d μ L h h' H locs cells slots ls) (hsz : H.size = base + hz h) (hU : U.heap = H) (hW : s.WarmedH U.vm) : PcOf base adr cA D As h (As.map (upV adr)).toArray U := by
  refine ⟨rfl, X.henv.warm hW (by rw [hU]; exact X.hS.1) (by rw [hU]; exact X.hS.2.1), by rw [hU]; exact hsz, X.hbs.2.1, by rw [hU]; exact X.hHL⟩
end AFT
theorem s_cS : cl_cS (X0 l base adr cA D) := by
  intro d μ pc L S h r h' idx ν As d1 r1 h1 hf hd hS hA ho hl k1 k2
  refine ⟨⟨Nat.le_trans k1.1.1 k2.1.1, Nat.le_trans k1.1.2.1 k2.1.2.1, k2.1.2.2.trans k1.1.2.2⟩, fun p e Rm s m args below meth c H locs cells slots ls CX => ?_⟩
  refine CX.size (fun hsz => ?_)
  have g3 := CX.hrm
  have g1 := k1.1
  have g2 := k2.1
  exact CX.after (Q := fun a b => MQ below (QcOf base adr cA D r h') args s a b (Af base)) g1 g2 (va_runS (As := As.map (upV adr)) (rest := S.map (upV adr)) ⟨CX.hx, CX.hb, CX.hml, CX.hown, CX.hts⟩ (Met_of k1 ho.2.2.2.1 hA) ⟨CX.cb hd ho hl.1 _ _, CX.hts _ hl.2⟩ ⟨Pc_blind, fun U hU hW => CX.hpc hsz hU hW⟩ rfl (by rw [List.length_map]) CX.hlr.2.1 (by simp [F0]) (lv_room (cat_up S hS)) hf ⟨by omega, by omega⟩) (fun CX1 => k2.2 p e Rm s m args below meth c _ _ _ _ _ CX1)
theorem s_cN : cl_cN (X0 l base adr cA D) := by
  intro d μ pc L S h r h' idx ν As d1 r1 h1 hf hd hS hA ho hl k1 k2
  refine ⟨⟨Nat.le_trans k1.1.1 k2.1.1, Nat.le_trans k1.1.2.1 k2.1.2.1, k2.1.2.2.trans k1.1.2.2⟩, fun p e Rm s m args below meth c H locs cells slots ls CX => ?_⟩
  refine CX.size (fun hsz => ?_)
  have g3 := CX.hrm
  have g1 := k1.1
  have g2 := k2.1
  exact CX.after (Q := fun a b => MQ below (QcOf base adr cA D r h') args s a b (Af base)) g1 g2 (va_runSN (As := As.map (upV adr)) (rest := S.map (upV adr)) ⟨CX.hx, CX.hb, CX.hml, CX.hown, CX.hts⟩ (Met_of k1 ho.2.2.2.1 hA) ⟨CX.cn hd ho hl.1 _ _, CX.hts _ hl.2, trivial⟩ ⟨Pc_blind, fun U hU hW => CX.hpc hsz hU hW⟩ rfl (by rw [List.length_map]) CX.hlr.2.1 (by simp [F0]) (lv_room (cat_up S hS)) hf ⟨by omega, by omega⟩) (fun CX1 => k2.2 p e Rm s m args below meth c _ _ _ _ _ CX1)
theorem s_cV : cl_cV (X0 l base adr cA D) := by
  intro d μ pc L S h r h' idx i ci n Cn ν As d1 r1 h1 hf hd hS hA ho hl hC ha k1 k2
  refine ⟨⟨Nat.le_trans k1.1.1 k2.1.1, Nat.le_trans k1.1.2.1 k2.1.2.1, k2.1.2.2.trans k1.1.2.2⟩, fun p e Rm s m args below meth c H locs cells slots ls CX => ?_⟩
  refine CX.size (fun hsz => ?_)
  have g3 := CX.hrm
  have g1 := k1.1
  have g2 := k2.1
  have hrc : ∃ cellB : Cell, H[adr i]? = some cellB ∧ cellB.vm.isStatics = false ∧ s.vm.findClass Cn = some cellB.cls := by
    cases hc : vwCl[ci]? with
    | none => rw [hc] at hC; cases hC
    | some x =>
      rw [hc] at hC
      have hC : x.1 = Cn := Option.some.inj hC
      subst hC
      obtain ⟨q, hq⟩ := wld_get (base := base) (adr := adr) (cA := cA) ha.1
      rw [mE_obj ha (by have := (List.getElem?_eq_some_iff.mp hc).1; have : ci < 11 := this; omega)] at hq
      rw [CX.hadr ha.1]
      exact va_recv CX.henv.1 CX.hHL.1 hc hq
  exact CX.after (Q := fun a b => MQ below (QcOf base adr cA D r h') args s a b (Af base)) g1 g2 (va_runV (b := adr i) (As := As.map (upV adr)) (rest := S.map (upV adr)) ⟨CX.hx, CX.hb, CX.hml, CX.hown, CX.hts⟩ (Met_of k1 ho.2.2.2.1 hA) ⟨CX.cb hd ho hl.1 _ _, CX.hts _ hl.2.1, CX.hts _ hl.2.2⟩ ⟨Pc_blind, hrc, fun U hU hW => CX.hpc (As := .ref i :: As) hsz hU hW⟩ rfl (by rw [List.length_map]) CX.hlr.2.1 (by simp [F0, upV]) (lv_room (cat_up S hS)) hf ⟨by omega, by omega⟩) (fun CX1 => k2.2 p e Rm s m args below meth c _ _ _ _ _ CX1)
theorem s_cT : cl_cT (X0 l base adr cA D) := by
  intro d μ pc L S h r h' idx j ν As d1 r1 h1 hf hd hS hA ho hl hj k1 k2
  refine ⟨⟨Nat.le_trans k1.1.1 k2.1.1, Nat.le_trans k1.1.2.1 k2.1.2.1, k2.1.2.2.trans k1.1.2.2⟩, fun p e Rm s m args below meth c H locs cells slots ls CX => ?_⟩
  refine CX.size (fun hsz => ?_)
  have g3 := CX.hrm
  have g1 := k1.1
  have g2 := k2.1
  have hrc : ∃ cellB : Cell, H[adr (1000000 + j)]? = some cellB ∧ cellB.vm.isStatics = false ∧ s.vm.findClass "java/lang/String" = some cellB.cls := by
    obtain ⟨cell, b1, b2, b3, -⟩ := (CX.henv.2.2.2.2.1 j hj).1.kept CX.hS.2.1
    exact ⟨cell, b1, b2, b3⟩
  exact CX.after (Q := fun a b => MQ below (QcOf base adr cA D r h') args s a b (Af base)) g1 g2 (va_runV (b := adr (1000000 + j)) (As := As.map (upV adr)) (rest := S.map (upV adr)) ⟨CX.hx, CX.hb, CX.hml, CX.hown, CX.hts⟩ (Met_of k1 ho.2.2.2.1 hA) ⟨CX.cb hd ho hl.1 _ _, CX.hts _ hl.2.1, CX.hts _ hl.2.2⟩ ⟨Pc_blind, hrc, fun U hU hW => CX.hpc (As := .ref (1000000 + j) :: As) hsz hU hW⟩ rfl (by rw [List.length_map]) CX.hlr.2.1 (by simp [F0, upV]) (lv_room (cat_up S hS)) hf ⟨by omega, by omega⟩) (fun CX1 => k2.2 p e Rm s m args below meth c _ _ _ _ _ CX1)
theorem s_cI : cl_cI (X0 l base adr cA D) := by
  intro d μ pc L S h r h' idx i ν As d1 r1 h1 hf hd hS hA ho hl k1 k2
  refine ⟨⟨Nat.le_trans k1.1.1 k2.1.1, Nat.le_trans k1.1.2.1 k2.1.2.1, k2.1.2.2.trans k1.1.2.2⟩, fun p e Rm s m args below meth c H locs cells slots ls CX => ?_⟩
  refine CX.size (fun hsz => ?_)
  have g3 := CX.hrm
  have g1 := k1.1
  have g2 := k2.1
  have hcb := CX.cb hd ho hl.1 (hz h1 - hz h) (hs h1 - hs h)
  have hM := Met_of k1 ho.2.2.2.1 hA
  rw [hl.2.2.2] at hcb hM
  exact CX.after (Q := fun a b => MQ below (QcOf base adr cA D r h') args s a b (Af base)) g1 g2 (va_runI (b := adr i) (As := As.map (upV adr)) (rest := S.map (upV adr)) ⟨CX.hx, CX.hb, CX.hml, CX.hown, CX.hts⟩ hM ⟨hcb, hl.2.2.1, CX.hts _ hl.2.1⟩ ⟨Pc_blind, fun U hU hW => CX.hpc (As := .ref i :: As) hsz hU hW⟩ rfl (by rw [List.length_map]) CX.hlr.2.1 (by simp [F0, upV]) (lv_room (cat_up S hS)) hf ⟨by omega, by omega⟩) (fun CX1 => k2.2 p e Rm s m args below meth c _ _ _ _ _ CX1)
theorem s_cJ : cl_cJ (X0 l base adr cA D) := by
  intro d μ pc L S h r h' idx i ν As d1 r1 h1 hf hd hS hA ho hl k1 k2
  refine ⟨⟨Nat.le_trans k1.1.1 k2.1.1, Nat.le_trans k1.1.2.1 k2.1.2.1, k2.1.2.2.trans k1.1.2.2⟩, fun p e Rm s m args below meth c H locs cells slots ls CX => ?_⟩
  refine CX.size (fun hsz => ?_)
  have g3 := CX.hrm
  have g1 := k1.1
  have g2 := k2.1
  have hcb := CX.cn hd ho hl.1 (hz h1 - hz h) (hs h1 - hs h)
  have hM := Met_of k1 ho.2.2.2.1 hA
  rw [hl.2.2.2] at hcb hM
  exact CX.after (Q := fun a b => MQ below (QcOf base adr cA D r h') args s a b (Af base)) g1 g2 (va_runIN (b := adr i) (As := As.map (upV adr)) (rest := S.map (upV adr)) ⟨CX.hx, CX.hb, CX.hml, CX.hown, CX.hts⟩ hM ⟨hcb, hl.2.2.1, CX.hts _ hl.2.1⟩ ⟨Pc_blind, fun U hU hW => CX.hpc (As := .ref i :: As) hsz hU hW⟩ rfl (by rw [List.length_map]) CX.hlr.2.1 (by simp [F0, upV]) (lv_room (cat_up S hS)) hf ⟨by omega, by omega⟩) (fun CX1 => k2.2 p e Rm s m args below meth c _ _ _ _ _ CX1)
theorem s_retI : cl_retI (X0 l base adr cA D) := by
  intro d μ pc L h v ty hf hr hn
  refine ⟨⟨Nat.le_refl _, Nat.le_refl _, rfl⟩, fun p e Rm s m args below meth c H locs cells slots ls CX => ?_⟩
  rw [Nat.sub_self, Nat.sub_self, Nat.add_zero, Nat.add_zero]
  exact W.zret CX.hx CX.hb (CX.hret.trans hr) hn (fun t ht _ => ⟨rfl, by rw [ht]; exact CX.hHL, CX.hS.F ht⟩) CX.hS.2.2 hf CX.hlocks
theorem s_retA : cl_retA (X0 l base adr cA D) := by
  intro d μ pc L h i ty hf hr ht
  refine ⟨⟨Nat.le_refl _, Nat.le_refl _, rfl⟩, fun p e Rm s m args below meth c H locs cells slots ls CX => ?_⟩
  rw [Nat.sub_self, Nat.sub_self, Nat.add_zero, Nat.add_zero]
  exact W.aret CX.hx CX.hb (CX.hret.trans hr) ht (Or.inr ⟨_, rfl⟩) (fun t ht _ => ⟨rfl, by rw [ht]; exact CX.hHL, CX.hS.F ht⟩) CX.hS.2.2 hf CX.hlocks
theorem s_retN : cl_retN (X0 l base adr cA D) := by
  intro d μ pc L h ty hf hr ht
  refine ⟨⟨Nat.le_refl _, Nat.le_refl _, rfl⟩, fun p e Rm s m args below meth c H locs cells slots ls CX => ?_⟩
  rw [Nat.sub_self, Nat.sub_self, Nat.add_zero, Nat.add_zero]
  exact W.aret CX.hx CX.hb (CX.hret.trans hr) ht (Or.inl rfl) (fun t ht _ => ⟨rfl, by rw [ht]; exact CX.hHL, CX.hS.F ht⟩) CX.hS.2.2 hf CX.hlocks
theorem s_retV : cl_retV (X0 l base adr cA D) := by
  intro d μ pc L h hf hr
  refine ⟨⟨Nat.le_refl _, Nat.le_refl _, rfl⟩, fun p e Rm s m args below meth c H locs cells slots ls CX => ?_⟩
  rw [Nat.sub_self, Nat.sub_self, Nat.add_zero, Nat.add_zero]
  exact W.vret CX.hx CX.hb (CX.hret.trans hr) (fun t ht _ => ⟨rfl, by rw [ht]; exact CX.hHL, CX.hS.F ht⟩) CX.hS.2.2 hf CX.hlocks

theorem s_Clo0 : Clo0 (X0 l base adr cA D) := ⟨s_iconst, s_bipush, s_sipush, s_ldc, s_ldcw, s_null, s_ldcS, s_iload_n, s_iload, s_aload_n⟩
theorem s_Clo1 : Clo1 (X0 l base adr cA D) := ⟨s_aload, s_aload_nN, s_aloadN, s_istore_n, s_istore, s_astore_n, s_astore, s_astore_nN, s_astoreN, s_iinc⟩
theorem s_Clo2 : Clo2 (X0 l base adr cA D) := ⟨s_iadd, s_isub, s_imul, s_iand, s_ior, s_ishl, s_ishr, s_idiv, s_irem, s_ineg⟩
theorem s_Clo3 : Clo3 (X0 l base adr cA D) := ⟨s_iushr, s_i2l, s_ladd, s_lcmp, s_i2b, s_i2s, s_i2c, s_dup, s_dup2, s_pop⟩
theorem s_Clo4 : Clo4 (X0 l base adr cA D) := ⟨s_goto, s_if_eq_t, s_if_eq_f, s_if_ne_t, s_if_ne_f, s_if_lt_t, s_if_lt_f, s_if_ge_t, s_if_ge_f, s_if_gt_t⟩
theorem s_Clo5 : Clo5 (X0 l base adr cA D) := ⟨s_if_gt_f, s_if_le_t, s_if_le_f, s_icmp_eq_t, s_icmp_eq_f, s_icmp_ne_t, s_icmp_ne_f, s_icmp_lt_t, s_icmp_lt_f, s_icmp_ge_t⟩
theorem s_Clo6 : Clo6 (X0 l base adr cA D) := ⟨s_icmp_ge_f, s_icmp_gt_t, s_icmp_gt_f, s_icmp_le_t, s_icmp_le_f, s_ifnonnull, s_ifnonnullN, s_ifnull, s_ifnullN, s_tableIn⟩
theorem s_Clo7 : Clo7 (X0 l base adr cA D) := ⟨s_tableOut, s_lookup, s_getI, s_getR, s_putI, s_putIF, s_putRF, s_iald, s_iast, s_aald⟩
theorem s_Clo8 : Clo8 (X0 l base adr cA D) := ⟨s_aaldN, s_aast, s_aastS, s_alen, s_newa, s_anew, s_new, s_strV, s_strC, s_bald⟩
theorem s_Clo9 : Clo9 (X0 l base adr cA D) := ⟨s_blen, s_gsC, s_gsF, s_gsA, s_abld, s_scld, s_sclen, s_acopy, s_objInit, s_mmax⟩
theorem s_Clo10 : Clo10 (X0 l base adr cA D) := ⟨s_mmin, s_mabs, s_cS, s_cN, s_cV, s_cT, s_cI, s_cJ, s_retI, s_retA⟩
theorem s_Clo11 : Clo11 (X0 l base adr cA D) := ⟨s_retN, s_retV⟩
theorem s_Clo : Clo (X0 l base adr cA D) := ⟨s_Clo0, s_Clo1, s_Clo2, s_Clo3, s_Clo4, s_Clo5, s_Clo6, s_Clo7, s_Clo8, s_Clo9, s_Clo10, s_Clo11⟩
end SIM
