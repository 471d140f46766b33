/-! THE SMALL MACHINE. A heap of numbered cells (kind and length of each, its ints, its references), frames as lists; a big-step relation, the least one closed under one rule an instruction. What it does, the JVM does (part 04). -/
abbrev Mth : Type := MethodName × ByteArray × Nat × Option FieldType
abbrev MH : Type := ((Nat → Int32) × Nat × Value) × (Nat → Nat × Nat) × Nat × Nat × (Nat → Nat → Int32) × (Nat → Nat → Option Nat)
abbrev hk (h : MH) : Nat → Nat × Nat := h.2.1
abbrev hz (h : MH) : Nat := h.2.2.1
abbrev hs (h : MH) : Nat := h.2.2.2.1
abbrev hI (h : MH) : Nat → Nat → Int32 := h.2.2.2.2.1
abbrev hR (h : MH) : Nat → Nat → Option Nat := h.2.2.2.2.2
/-- cell i is of kind t (below 100 a class's number; 100 ints; 101 .. references), n long -/
def isA (h : MH) (i t n : Nat) : Prop := i < hz h ∧ hk h i = (t, n)
def rowI (h : MH) (i : Nat) (w : Nat → Int32) : MH := (h.1, hk h, hz h, hs h, va_up (hI h) i w, hR h)
def rowR (h : MH) (i : Nat) (w : Nat → Option Nat) : MH := (h.1, hk h, hz h, hs h, hI h, va_up (hR h) i w)
def putI (h : MH) (i k : Nat) (v : Int32) : MH := rowI h i (va_up (hI h i) k v)
def putR (h : MH) (i k : Nat) (v : Option Nat) : MH := rowR h i (va_up (hR h i) k v)
def alloc (h : MH) (t n : Nat) : MH := (h.1, va_up (hk h) (hz h) (t, n), hz h + 1, hs h + n, va_up (hI h) (hz h) (fun _ => 0), va_up (hR h) (hz h) (fun _ => none))
abbrev Lcl : Type := List (Option Value)
def ent (As : List Value) (n : Nat) : Lcl := As.map some ++ List.replicate (n - As.length) none
def psh (r : Option Value) (S : List Value) : List Value := match r with
  | none => S
  | some v => v :: S
def okA (As : List Value) (n : Nat) : Bool := As.all (fun v => v.category == 1) && decide (As.length ≤ n)
abbrev Fe (μ : Mth) (pc : Nat) (i : Instr) (len : Nat) : Prop := decode μ.2.1 pc = .ok (i, len)
def GW : List Cond := lw_tbl.filter goodWord
def isNest : Cond → Bool
  | .methodLinkNest _ _ _ _ => true
  | .fieldLinkNest _ _ _ _ _ _ => true
  | _ => false
def NW : List Cond := lw_tbl.filter isNest
def rfL : List (List Nat) := [[], [0, 7, 9, 10], [0, 5], [2], [1, 2], [0], [2, 3], [5], [0, 1], [0, 1, 3, 4, 5, 6, 7, 8, 9], [0, 1, 3, 4, 5, 6, 7, 9, 10, 20, 21, 22, 23, 24, 25, 26, 27, 28, 29]]
def rfF (ci k : Nat) : Bool := (rfL.getD ci []).contains k
/-- the element classes of the arrays of references, by kind less 101 -/
def elN : List String := ["ShortCut$Bit", "ShortCut$Text", "ShortCut$Sheet", "ShortCut$Slot", "java/lang/String"]
def elC : List Nat := [0, 6, 3, 4]
def strs : List (List Int32) := [[116, 97, 107, 101], [116, 104, 105, 110, 107], [102, 105, 110, 101], [108, 119, 116], [115, 103, 107], [109, 119], [33], [40], [41], [124], [38], [60, 61, 62], [43, 45], [42, 47]]
def strW : List (String × Nat × String × Nat) := [("ShortCut$Reader", 69, "take", 0), ("ShortCut$Reader", 75, "think", 1), ("ShortCut$Reader", 77, "fine", 2), ("ShortCut$Reader", 136, "lwt", 3), ("ShortCut$Reader", 138, "sgk", 4), ("ShortCut$Reader", 140, "mw", 5), ("ShortCut$Reader", 102, "!", 6), ("ShortCut$Reader", 107, "(", 7), ("ShortCut$Reader", 124, ")", 8), ("ShortCut$Reader", 126, "|", 9), ("ShortCut$Reader", 128, "&", 10), ("ShortCut$Reader", 130, "<=>", 11), ("ShortCut$Reader", 132, "+-", 12), ("ShortCut$Reader", 134, "*/", 13), ("ShortCutModel", 33, "take", 0), ("ShortCutModel", 35, "think", 1), ("ShortCutModel", 37, "fine", 2), ("ShortCutModel", 43, "lwt", 3), ("ShortCutModel", 45, "sgk", 4), ("ShortCutModel", 47, "mw", 5)]
def aboveL : List Int32 := [-1, 0, 0, 1, 2, 0]
/-- a field's link: class ci, its field k of n, type and final -/
def FLk (own : String) (idx ci k n : Nat) (ty : FieldType) (fin : Bool) : Prop := ∃ (C : String) (T : u_T), vwCl[ci]? = some (C, T, n) ∧ k < n ∧ Cond.fieldLink own idx (T k).1 (T k).2.1 (T k).2.2.1 ∈ GW ∧ parseFieldDescriptor (T k).2.2.1 = some ty ∧ (T k).2.2.2 = fin ∧ (T k).1 = C
def NLk (own : String) (idx ci n : Nat) : Prop := ∃ (C : String) (T : u_T), vwCl[ci]? = some (C, T, n) ∧ Cond.classLink own idx C ∈ GW ∧ Cond.instantiable C n ∈ GW ∧ Cond.initialized C ∈ GW
/-- a method that may be called: its code, its class is initialised, it has n parameters -/
def MOk (μ : Mth) (n : Nat) : Prop := Cond.code μ.1 μ.2.1 μ.2.2.1 μ.2.2.2 ∈ GW ∧ Cond.initialized μ.1.cls ∈ GW ∧ μ.2.2.1 ≤ 29 ∧ plainName μ.1.cls = true ∧ μ.1.cls ≠ "java/lang/invoke/MethodHandle" ∧ μ.1.cls ≠ "java/lang/invoke/VarHandle" ∧ (parseMethodDescriptor μ.1.desc).map (fun d => d.parameters.length) = some n
def MLs (own : String) (idx : Nat) (μ : Mth) : Prop := Cond.methodLink own idx μ.1 ∈ GW ∧ Cond.static μ.1 ∈ GW
def MLn (own : String) (idx : Nat) (μ : Mth) : Prop := Cond.methodLinkNest own idx μ.1 "ShortCut" ∈ NW ∧ Cond.static μ.1 ∈ GW
def MLv (own : String) (idx : Nat) (C : String) (μ : Mth) : Prop := Cond.methodLink own idx μ.1 ∈ GW ∧ Cond.instanceMethod μ.1 ∈ GW ∧ Cond.selects C μ.1 μ.1 ∈ GW
def MLi (own : String) (idx : Nat) (μ : Mth) : Prop := Cond.methodLink own idx μ.1 ∈ GW ∧ Cond.instanceMethod μ.1 ∈ GW ∧ μ.1.name = "<init>" ∧ μ.2.2.2 = none
def MLj (own : String) (idx : Nat) (μ : Mth) : Prop := Cond.methodLinkNest own idx μ.1 "ShortCut" ∈ NW ∧ Cond.instanceMethod μ.1 ∈ GW ∧ μ.1.name = "<init>" ∧ μ.2.2.2 = none
def tyR (ty : FieldType) : Prop := (∃ c, ty = .object c) ∨ ∃ t, ty = .array t
def jmax (x y : Int32) : Int32 := if x < y then y else x
def jmin (x y : Int32) : Int32 := if y < x then y else x
def jabs (x : Int32) : Int32 := if 0 ≤ x then x else 0 - x
abbrev XT : Type := Nat → Mth → Nat → Lcl → List Value → MH → Option Value → MH → Prop

def cl_iconst (X : XT) : Prop := ∀ (d : Nat) (μ : Mth) (pc : Nat) (L : Lcl) (S : List Value) (h : MH) (r : Option Value) (h' : MH) (n : Int) (v : Int32), Fe μ pc (.iconst n) 1 → (Int32.ofInt n = v) → X d μ (pc + 1) L (.int v :: S) h r h' → X d μ pc L S h r h'
def cl_bipush (X : XT) : Prop := ∀ (d : Nat) (μ : Mth) (pc : Nat) (L : Lcl) (S : List Value) (h : MH) (r : Option Value) (h' : MH) (n : Int) (v : Int32), Fe μ pc (.bipush n) 2 → ((Int8.ofInt n).toInt32 = v) → X d μ (pc + 2) L (.int v :: S) h r h' → X d μ pc L S h r h'
def cl_sipush (X : XT) : Prop := ∀ (d : Nat) (μ : Mth) (pc : Nat) (L : Lcl) (S : List Value) (h : MH) (r : Option Value) (h' : MH) (n : Int) (v : Int32), Fe μ pc (.sipush n) 3 → ((Int16.ofInt n).toInt32 = v) → X d μ (pc + 3) L (.int v :: S) h r h' → X d μ pc L S h r h'
def cl_ldc (X : XT) : Prop := ∀ (d : Nat) (μ : Mth) (pc : Nat) (L : Lcl) (S : List Value) (h : MH) (r : Option Value) (h' : MH) (idx : Nat) (v : Int32), Fe μ pc (.ldc idx) 2 → (Cond.constant μ.1.cls idx v ∈ GW) → X d μ (pc + 2) L (.int v :: S) h r h' → X d μ pc L S h r h'
def cl_ldcw (X : XT) : Prop := ∀ (d : Nat) (μ : Mth) (pc : Nat) (L : Lcl) (S : List Value) (h : MH) (r : Option Value) (h' : MH) (idx : Nat) (v : Int32), Fe μ pc (.ldc_w idx) 3 → (Cond.constant μ.1.cls idx v ∈ GW) → X d μ (pc + 3) L (.int v :: S) h r h' → X d μ pc L S h r h'
def cl_null (X : XT) : Prop := ∀ (d : Nat) (μ : Mth) (pc : Nat) (L : Lcl) (S : List Value) (h : MH) (r : Option Value) (h' : MH) , Fe μ pc .aconst_null 1 → X d μ (pc + 1) L (.null :: S) h r h' → X d μ pc L S h r h'
def cl_ldcS (X : XT) : Prop := ∀ (d : Nat) (μ : Mth) (pc : Nat) (L : Lcl) (S : List Value) (h : MH) (r : Option Value) (h' : MH) (idx : Nat) (tx : String) (j : Nat), Fe μ pc (.ldc idx) 2 → ((μ.1.cls, idx, tx, j) ∈ strW) → X d μ (pc + 2) L (.ref (1000000 + j) :: S) h r h' → X d μ pc L S h r h'
def cl_iload_n (X : XT) : Prop := ∀ (d : Nat) (μ : Mth) (pc : Nat) (L : Lcl) (S : List Value) (h : MH) (r : Option Value) (h' : MH) (i : Fin 4) (x : Int32), Fe μ pc (.iload_n i) 1 → (L[(i : Nat)]? = some (some (.int x))) → X d μ (pc + 1) L (.int x :: S) h r h' → X d μ pc L S h r h'
def cl_iload (X : XT) : Prop := ∀ (d : Nat) (μ : Mth) (pc : Nat) (L : Lcl) (S : List Value) (h : MH) (r : Option Value) (h' : MH) (i : Nat) (x : Int32), Fe μ pc (.iload i) 2 → (L[i]? = some (some (.int x))) → X d μ (pc + 2) L (.int x :: S) h r h' → X d μ pc L S h r h'
def cl_aload_n (X : XT) : Prop := ∀ (d : Nat) (μ : Mth) (pc : Nat) (L : Lcl) (S : List Value) (h : MH) (r : Option Value) (h' : MH) (i : Fin 4) (x : Nat), Fe μ pc (.aload_n i) 1 → (L[(i : Nat)]? = some (some (.ref x))) → X d μ (pc + 1) L (.ref x :: S) h r h' → X d μ pc L S h r h'
def cl_aload (X : XT) : Prop := ∀ (d : Nat) (μ : Mth) (pc : Nat) (L : Lcl) (S : List Value) (h : MH) (r : Option Value) (h' : MH) (i : Nat) (x : Nat), Fe μ pc (.aload i) 2 → (L[i]? = some (some (.ref x))) → X d μ (pc + 2) L (.ref x :: S) h r h' → X d μ pc L S h r h'
def cl_aload_nN (X : XT) : Prop := ∀ (d : Nat) (μ : Mth) (pc : Nat) (L : Lcl) (S : List Value) (h : MH) (r : Option Value) (h' : MH) (i : Fin 4), Fe μ pc (.aload_n i) 1 → (L[(i : Nat)]? = some (some .null)) → X d μ (pc + 1) L (.null :: S) h r h' → X d μ pc L S h r h'
def cl_aloadN (X : XT) : Prop := ∀ (d : Nat) (μ : Mth) (pc : Nat) (L : Lcl) (S : List Value) (h : MH) (r : Option Value) (h' : MH) (i : Nat), Fe μ pc (.aload i) 2 → (L[i]? = some (some .null)) → X d μ (pc + 2) L (.null :: S) h r h' → X d μ pc L S h r h'
def cl_istore_n (X : XT) : Prop := ∀ (d : Nat) (μ : Mth) (pc : Nat) (L : Lcl) (S : List Value) (h : MH) (r : Option Value) (h' : MH) (i : Fin 4) (x : Int32), Fe μ pc (.istore_n i) 1 → ((i : Nat) < L.length) → X d μ (pc + 1) (L.set (i : Nat) (some (.int x))) S h r h' → X d μ pc L ((.int x) :: S) h r h'
def cl_istore (X : XT) : Prop := ∀ (d : Nat) (μ : Mth) (pc : Nat) (L : Lcl) (S : List Value) (h : MH) (r : Option Value) (h' : MH) (i : Nat) (x : Int32), Fe μ pc (.istore i) 2 → (i < L.length) → X d μ (pc + 2) (L.set i (some (.int x))) S h r h' → X d μ pc L ((.int x) :: S) h r h'
def cl_astore_n (X : XT) : Prop := ∀ (d : Nat) (μ : Mth) (pc : Nat) (L : Lcl) (S : List Value) (h : MH) (r : Option Value) (h' : MH) (i : Fin 4) (x : Nat), Fe μ pc (.astore_n i) 1 → ((i : Nat) < L.length) → X d μ (pc + 1) (L.set (i : Nat) (some (.ref x))) S h r h' → X d μ pc L ((.ref x) :: S) h r h'
def cl_astore (X : XT) : Prop := ∀ (d : Nat) (μ : Mth) (pc : Nat) (L : Lcl) (S : List Value) (h : MH) (r : Option Value) (h' : MH) (i : Nat) (x : Nat), Fe μ pc (.astore i) 2 → (i < L.length) → X d μ (pc + 2) (L.set i (some (.ref x))) S h r h' → X d μ pc L ((.ref x) :: S) h r h'
def cl_astore_nN (X : XT) : Prop := ∀ (d : Nat) (μ : Mth) (pc : Nat) (L : Lcl) (S : List Value) (h : MH) (r : Option Value) (h' : MH) (i : Fin 4), Fe μ pc (.astore_n i) 1 → ((i : Nat) < L.length) → X d μ (pc + 1) (L.set (i : Nat) (some .null)) S h r h' → X d μ pc L (.null :: S) h r h'
def cl_astoreN (X : XT) : Prop := ∀ (d : Nat) (μ : Mth) (pc : Nat) (L : Lcl) (S : List Value) (h : MH) (r : Option Value) (h' : MH) (i : Nat), Fe μ pc (.astore i) 2 → (i < L.length) → X d μ (pc + 2) (L.set i (some .null)) S h r h' → X d μ pc L (.null :: S) h r h'
def cl_iinc (X : XT) : Prop := ∀ (d : Nat) (μ : Mth) (pc : Nat) (L : Lcl) (S : List Value) (h : MH) (r : Option Value) (h' : MH) (i : Nat) (n : Int) (x v : Int32), Fe μ pc (.iinc i n) 3 → (L[i]? = some (some (.int x))) → (Int32.ofInt n = v) → X d μ (pc + 3) (L.set i (some (.int (x + v)))) S h r h' → X d μ pc L S h r h'
def cl_iadd (X : XT) : Prop := ∀ (d : Nat) (μ : Mth) (pc : Nat) (L : Lcl) (S : List Value) (h : MH) (r : Option Value) (h' : MH) (x y : Int32), Fe μ pc .iadd 1 → X d μ (pc + 1) L (.int (x + y) :: S) h r h' → X d μ pc L (.int y :: .int x :: S) h r h'
def cl_isub (X : XT) : Prop := ∀ (d : Nat) (μ : Mth) (pc : Nat) (L : Lcl) (S : List Value) (h : MH) (r : Option Value) (h' : MH) (x y : Int32), Fe μ pc .isub 1 → X d μ (pc + 1) L (.int (x - y) :: S) h r h' → X d μ pc L (.int y :: .int x :: S) h r h'
def cl_imul (X : XT) : Prop := ∀ (d : Nat) (μ : Mth) (pc : Nat) (L : Lcl) (S : List Value) (h : MH) (r : Option Value) (h' : MH) (x y : Int32), Fe μ pc .imul 1 → X d μ (pc + 1) L (.int (x * y) :: S) h r h' → X d μ pc L (.int y :: .int x :: S) h r h'
def cl_iand (X : XT) : Prop := ∀ (d : Nat) (μ : Mth) (pc : Nat) (L : Lcl) (S : List Value) (h : MH) (r : Option Value) (h' : MH) (x y : Int32), Fe μ pc .iand 1 → X d μ (pc + 1) L (.int (x &&& y) :: S) h r h' → X d μ pc L (.int y :: .int x :: S) h r h'
def cl_ior (X : XT) : Prop := ∀ (d : Nat) (μ : Mth) (pc : Nat) (L : Lcl) (S : List Value) (h : MH) (r : Option Value) (h' : MH) (x y : Int32), Fe μ pc .ior 1 → X d μ (pc + 1) L (.int (x ||| y) :: S) h r h' → X d μ pc L (.int y :: .int x :: S) h r h'
def cl_ishl (X : XT) : Prop := ∀ (d : Nat) (μ : Mth) (pc : Nat) (L : Lcl) (S : List Value) (h : MH) (r : Option Value) (h' : MH) (x y : Int32), Fe μ pc .ishl 1 → X d μ (pc + 1) L (.int (x <<< (y &&& 31)) :: S) h r h' → X d μ pc L (.int y :: .int x :: S) h r h'
def cl_ishr (X : XT) : Prop := ∀ (d : Nat) (μ : Mth) (pc : Nat) (L : Lcl) (S : List Value) (h : MH) (r : Option Value) (h' : MH) (x y : Int32), Fe μ pc .ishr 1 → X d μ (pc + 1) L (.int (x >>> (y &&& 31)) :: S) h r h' → X d μ pc L (.int y :: .int x :: S) h r h'
def cl_idiv (X : XT) : Prop := ∀ (d : Nat) (μ : Mth) (pc : Nat) (L : Lcl) (S : List Value) (h : MH) (r : Option Value) (h' : MH) (x y : Int32), Fe μ pc .idiv 1 → (¬ y = 0) → X d μ (pc + 1) L (.int (x / y) :: S) h r h' → X d μ pc L (.int y :: .int x :: S) h r h'
def cl_irem (X : XT) : Prop := ∀ (d : Nat) (μ : Mth) (pc : Nat) (L : Lcl) (S : List Value) (h : MH) (r : Option Value) (h' : MH) (x y : Int32), Fe μ pc .irem 1 → (¬ y = 0) → X d μ (pc + 1) L (.int (x - x / y * y) :: S) h r h' → X d μ pc L (.int y :: .int x :: S) h r h'
def cl_ineg (X : XT) : Prop := ∀ (d : Nat) (μ : Mth) (pc : Nat) (L : Lcl) (S : List Value) (h : MH) (r : Option Value) (h' : MH) (x : Int32), Fe μ pc .ineg 1 → X d μ (pc + 1) L (.int (-x) :: S) h r h' → X d μ pc L (.int x :: S) h r h'
def cl_iushr (X : XT) : Prop := ∀ (d : Nat) (μ : Mth) (pc : Nat) (L : Lcl) (S : List Value) (h : MH) (r : Option Value) (h' : MH) (x y : Int32), Fe μ pc .iushr 1 → X d μ (pc + 1) L (.int (x.toUInt32 >>> (y.toUInt32 &&& Int32.toUInt32 31)).toInt32 :: S) h r h' → X d μ pc L (.int y :: .int x :: S) h r h'
def cl_i2l (X : XT) : Prop := ∀ (d : Nat) (μ : Mth) (pc : Nat) (L : Lcl) (S : List Value) (h : MH) (r : Option Value) (h' : MH) (x : Int32), Fe μ pc .i2l 1 → X d μ (pc + 1) L (.long x.toInt64 :: S) h r h' → X d μ pc L (.int x :: S) h r h'
def cl_ladd (X : XT) : Prop := ∀ (d : Nat) (μ : Mth) (pc : Nat) (L : Lcl) (S : List Value) (h : MH) (r : Option Value) (h' : MH) (x y : Int64), Fe μ pc .ladd 1 → X d μ (pc + 1) L (.long (x + y) :: S) h r h' → X d μ pc L (.long y :: .long x :: S) h r h'
def cl_lcmp (X : XT) : Prop := ∀ (d : Nat) (μ : Mth) (pc : Nat) (L : Lcl) (S : List Value) (h : MH) (r : Option Value) (h' : MH) (x y : Int64), Fe μ pc .lcmp 1 → X d μ (pc + 1) L (.int (lg_cmp x y) :: S) h r h' → X d μ pc L (.long y :: .long x :: S) h r h'
def cl_i2b (X : XT) : Prop := ∀ (d : Nat) (μ : Mth) (pc : Nat) (L : Lcl) (S : List Value) (h : MH) (r : Option Value) (h' : MH) (x : Int32), Fe μ pc .i2b 1 → X d μ (pc + 1) L (.int x.toInt8.toInt32 :: S) h r h' → X d μ pc L (.int x :: S) h r h'
def cl_i2s (X : XT) : Prop := ∀ (d : Nat) (μ : Mth) (pc : Nat) (L : Lcl) (S : List Value) (h : MH) (r : Option Value) (h' : MH) (x : Int32), Fe μ pc .i2s 1 → X d μ (pc + 1) L (.int x.toInt16.toInt32 :: S) h r h' → X d μ pc L (.int x :: S) h r h'
def cl_i2c (X : XT) : Prop := ∀ (d : Nat) (μ : Mth) (pc : Nat) (L : Lcl) (S : List Value) (h : MH) (r : Option Value) (h' : MH) (x : Int32), Fe μ pc .i2c 1 → X d μ (pc + 1) L (.int (x.toUInt32 % 65536).toInt32 :: S) h r h' → X d μ pc L (.int x :: S) h r h'
def cl_dup (X : XT) : Prop := ∀ (d : Nat) (μ : Mth) (pc : Nat) (L : Lcl) (S : List Value) (h : MH) (r : Option Value) (h' : MH) (v : Value), Fe μ pc .dup 1 → (v.category = 1) → X d μ (pc + 1) L (v :: v :: S) h r h' → X d μ pc L (v :: S) h r h'
def cl_dup2 (X : XT) : Prop := ∀ (d : Nat) (μ : Mth) (pc : Nat) (L : Lcl) (S : List Value) (h : MH) (r : Option Value) (h' : MH) (v w : Value), Fe μ pc .dup2 1 → (v.category = 1) → (w.category = 1) → X d μ (pc + 1) L (v :: w :: v :: w :: S) h r h' → X d μ pc L (v :: w :: S) h r h'
def cl_pop (X : XT) : Prop := ∀ (d : Nat) (μ : Mth) (pc : Nat) (L : Lcl) (S : List Value) (h : MH) (r : Option Value) (h' : MH) (v : Value), Fe μ pc .pop 1 → (v.category = 1) → X d μ (pc + 1) L S h r h' → X d μ pc L (v :: S) h r h'
def cl_goto (X : XT) : Prop := ∀ (d : Nat) (μ : Mth) (pc : Nat) (L : Lcl) (S : List Value) (h : MH) (r : Option Value) (h' : MH) (off : Int) (tgt : Nat), Fe μ pc (.goto off) 3 → ((pc : Int) + off = (tgt : Int)) → X d μ tgt L S h r h' → X d μ pc L S h r h'
def cl_if_eq_t (X : XT) : Prop := ∀ (d : Nat) (μ : Mth) (pc : Nat) (L : Lcl) (S : List Value) (h : MH) (r : Option Value) (h' : MH) (x : Int32) (off : Int) (tgt : Nat), Fe μ pc (.ifCond .eq off) 3 → ((pc : Int) + off = (tgt : Int)) → (x = 0) → X d μ tgt L S h r h' → X d μ pc L (.int x :: S) h r h'
def cl_if_eq_f (X : XT) : Prop := ∀ (d : Nat) (μ : Mth) (pc : Nat) (L : Lcl) (S : List Value) (h : MH) (r : Option Value) (h' : MH) (x : Int32) (off : Int) (tgt : Nat), Fe μ pc (.ifCond .eq off) 3 → ((pc : Int) + off = (tgt : Int)) → (¬ (x = 0)) → X d μ (pc + 3) L S h r h' → X d μ pc L (.int x :: S) h r h'
def cl_if_ne_t (X : XT) : Prop := ∀ (d : Nat) (μ : Mth) (pc : Nat) (L : Lcl) (S : List Value) (h : MH) (r : Option Value) (h' : MH) (x : Int32) (off : Int) (tgt : Nat), Fe μ pc (.ifCond .ne off) 3 → ((pc : Int) + off = (tgt : Int)) → (¬ x = 0) → X d μ tgt L S h r h' → X d μ pc L (.int x :: S) h r h'
def cl_if_ne_f (X : XT) : Prop := ∀ (d : Nat) (μ : Mth) (pc : Nat) (L : Lcl) (S : List Value) (h : MH) (r : Option Value) (h' : MH) (x : Int32) (off : Int) (tgt : Nat), Fe μ pc (.ifCond .ne off) 3 → ((pc : Int) + off = (tgt : Int)) → (¬ (¬ x = 0)) → X d μ (pc + 3) L S h r h' → X d μ pc L (.int x :: S) h r h'
def cl_if_lt_t (X : XT) : Prop := ∀ (d : Nat) (μ : Mth) (pc : Nat) (L : Lcl) (S : List Value) (h : MH) (r : Option Value) (h' : MH) (x : Int32) (off : Int) (tgt : Nat), Fe μ pc (.ifCond .lt off) 3 → ((pc : Int) + off = (tgt : Int)) → (x < 0) → X d μ tgt L S h r h' → X d μ pc L (.int x :: S) h r h'
def cl_if_lt_f (X : XT) : Prop := ∀ (d : Nat) (μ : Mth) (pc : Nat) (L : Lcl) (S : List Value) (h : MH) (r : Option Value) (h' : MH) (x : Int32) (off : Int) (tgt : Nat), Fe μ pc (.ifCond .lt off) 3 → ((pc : Int) + off = (tgt : Int)) → (¬ (x < 0)) → X d μ (pc + 3) L S h r h' → X d μ pc L (.int x :: S) h r h'
def cl_if_ge_t (X : XT) : Prop := ∀ (d : Nat) (μ : Mth) (pc : Nat) (L : Lcl) (S : List Value) (h : MH) (r : Option Value) (h' : MH) (x : Int32) (off : Int) (tgt : Nat), Fe μ pc (.ifCond .ge off) 3 → ((pc : Int) + off = (tgt : Int)) → (0 ≤ x) → X d μ tgt L S h r h' → X d μ pc L (.int x :: S) h r h'
def cl_if_ge_f (X : XT) : Prop := ∀ (d : Nat) (μ : Mth) (pc : Nat) (L : Lcl) (S : List Value) (h : MH) (r : Option Value) (h' : MH) (x : Int32) (off : Int) (tgt : Nat), Fe μ pc (.ifCond .ge off) 3 → ((pc : Int) + off = (tgt : Int)) → (¬ (0 ≤ x)) → X d μ (pc + 3) L S h r h' → X d μ pc L (.int x :: S) h r h'
def cl_if_gt_t (X : XT) : Prop := ∀ (d : Nat) (μ : Mth) (pc : Nat) (L : Lcl) (S : List Value) (h : MH) (r : Option Value) (h' : MH) (x : Int32) (off : Int) (tgt : Nat), Fe μ pc (.ifCond .gt off) 3 → ((pc : Int) + off = (tgt : Int)) → (0 < x) → X d μ tgt L S h r h' → X d μ pc L (.int x :: S) h r h'
def cl_if_gt_f (X : XT) : Prop := ∀ (d : Nat) (μ : Mth) (pc : Nat) (L : Lcl) (S : List Value) (h : MH) (r : Option Value) (h' : MH) (x : Int32) (off : Int) (tgt : Nat), Fe μ pc (.ifCond .gt off) 3 → ((pc : Int) + off = (tgt : Int)) → (¬ (0 < x)) → X d μ (pc + 3) L S h r h' → X d μ pc L (.int x :: S) h r h'
def cl_if_le_t (X : XT) : Prop := ∀ (d : Nat) (μ : Mth) (pc : Nat) (L : Lcl) (S : List Value) (h : MH) (r : Option Value) (h' : MH) (x : Int32) (off : Int) (tgt : Nat), Fe μ pc (.ifCond .le off) 3 → ((pc : Int) + off = (tgt : Int)) → (x ≤ 0) → X d μ tgt L S h r h' → X d μ pc L (.int x :: S) h r h'
def cl_if_le_f (X : XT) : Prop := ∀ (d : Nat) (μ : Mth) (pc : Nat) (L : Lcl) (S : List Value) (h : MH) (r : Option Value) (h' : MH) (x : Int32) (off : Int) (tgt : Nat), Fe μ pc (.ifCond .le off) 3 → ((pc : Int) + off = (tgt : Int)) → (¬ (x ≤ 0)) → X d μ (pc + 3) L S h r h' → X d μ pc L (.int x :: S) h r h'
def cl_icmp_eq_t (X : XT) : Prop := ∀ (d : Nat) (μ : Mth) (pc : Nat) (L : Lcl) (S : List Value) (h : MH) (r : Option Value) (h' : MH) (x y : Int32) (off : Int) (tgt : Nat), Fe μ pc (.if_icmp .eq off) 3 → ((pc : Int) + off = (tgt : Int)) → (x = y) → X d μ tgt L S h r h' → X d μ pc L (.int y :: .int x :: S) h r h'
def cl_icmp_eq_f (X : XT) : Prop := ∀ (d : Nat) (μ : Mth) (pc : Nat) (L : Lcl) (S : List Value) (h : MH) (r : Option Value) (h' : MH) (x y : Int32) (off : Int) (tgt : Nat), Fe μ pc (.if_icmp .eq off) 3 → ((pc : Int) + off = (tgt : Int)) → (¬ (x = y)) → X d μ (pc + 3) L S h r h' → X d μ pc L (.int y :: .int x :: S) h r h'
def cl_icmp_ne_t (X : XT) : Prop := ∀ (d : Nat) (μ : Mth) (pc : Nat) (L : Lcl) (S : List Value) (h : MH) (r : Option Value) (h' : MH) (x y : Int32) (off : Int) (tgt : Nat), Fe μ pc (.if_icmp .ne off) 3 → ((pc : Int) + off = (tgt : Int)) → (¬ x = y) → X d μ tgt L S h r h' → X d μ pc L (.int y :: .int x :: S) h r h'
def cl_icmp_ne_f (X : XT) : Prop := ∀ (d : Nat) (μ : Mth) (pc : Nat) (L : Lcl) (S : List Value) (h : MH) (r : Option Value) (h' : MH) (x y : Int32) (off : Int) (tgt : Nat), Fe μ pc (.if_icmp .ne off) 3 → ((pc : Int) + off = (tgt : Int)) → (¬ (¬ x = y)) → X d μ (pc + 3) L S h r h' → X d μ pc L (.int y :: .int x :: S) h r h'
def cl_icmp_lt_t (X : XT) : Prop := ∀ (d : Nat) (μ : Mth) (pc : Nat) (L : Lcl) (S : List Value) (h : MH) (r : Option Value) (h' : MH) (x y : Int32) (off : Int) (tgt : Nat), Fe μ pc (.if_icmp .lt off) 3 → ((pc : Int) + off = (tgt : Int)) → (x < y) → X d μ tgt L S h r h' → X d μ pc L (.int y :: .int x :: S) h r h'
def cl_icmp_lt_f (X : XT) : Prop := ∀ (d : Nat) (μ : Mth) (pc : Nat) (L : Lcl) (S : List Value) (h : MH) (r : Option Value) (h' : MH) (x y : Int32) (off : Int) (tgt : Nat), Fe μ pc (.if_icmp .lt off) 3 → ((pc : Int) + off = (tgt : Int)) → (¬ (x < y)) → X d μ (pc + 3) L S h r h' → X d μ pc L (.int y :: .int x :: S) h r h'
def cl_icmp_ge_t (X : XT) : Prop := ∀ (d : Nat) (μ : Mth) (pc : Nat) (L : Lcl) (S : List Value) (h : MH) (r : Option Value) (h' : MH) (x y : Int32) (off : Int) (tgt : Nat), Fe μ pc (.if_icmp .ge off) 3 → ((pc : Int) + off = (tgt : Int)) → (y ≤ x) → X d μ tgt L S h r h' → X d μ pc L (.int y :: .int x :: S) h r h'
def cl_icmp_ge_f (X : XT) : Prop := ∀ (d : Nat) (μ : Mth) (pc : Nat) (L : Lcl) (S : List Value) (h : MH) (r : Option Value) (h' : MH) (x y : Int32) (off : Int) (tgt : Nat), Fe μ pc (.if_icmp .ge off) 3 → ((pc : Int) + off = (tgt : Int)) → (¬ (y ≤ x)) → X d μ (pc + 3) L S h r h' → X d μ pc L (.int y :: .int x :: S) h r h'
def cl_icmp_gt_t (X : XT) : Prop := ∀ (d : Nat) (μ : Mth) (pc : Nat) (L : Lcl) (S : List Value) (h : MH) (r : Option Value) (h' : MH) (x y : Int32) (off : Int) (tgt : Nat), Fe μ pc (.if_icmp .gt off) 3 → ((pc : Int) + off = (tgt : Int)) → (y < x) → X d μ tgt L S h r h' → X d μ pc L (.int y :: .int x :: S) h r h'
def cl_icmp_gt_f (X : XT) : Prop := ∀ (d : Nat) (μ : Mth) (pc : Nat) (L : Lcl) (S : List Value) (h : MH) (r : Option Value) (h' : MH) (x y : Int32) (off : Int) (tgt : Nat), Fe μ pc (.if_icmp .gt off) 3 → ((pc : Int) + off = (tgt : Int)) → (¬ (y < x)) → X d μ (pc + 3) L S h r h' → X d μ pc L (.int y :: .int x :: S) h r h'
def cl_icmp_le_t (X : XT) : Prop := ∀ (d : Nat) (μ : Mth) (pc : Nat) (L : Lcl) (S : List Value) (h : MH) (r : Option Value) (h' : MH) (x y : Int32) (off : Int) (tgt : Nat), Fe μ pc (.if_icmp .le off) 3 → ((pc : Int) + off = (tgt : Int)) → (x ≤ y) → X d μ tgt L S h r h' → X d μ pc L (.int y :: .int x :: S) h r h'
def cl_icmp_le_f (X : XT) : Prop := ∀ (d : Nat) (μ : Mth) (pc : Nat) (L : Lcl) (S : List Value) (h : MH) (r : Option Value) (h' : MH) (x y : Int32) (off : Int) (tgt : Nat), Fe μ pc (.if_icmp .le off) 3 → ((pc : Int) + off = (tgt : Int)) → (¬ (x ≤ y)) → X d μ (pc + 3) L S h r h' → X d μ pc L (.int y :: .int x :: S) h r h'
def cl_ifnonnull (X : XT) : Prop := ∀ (d : Nat) (μ : Mth) (pc : Nat) (L : Lcl) (S : List Value) (h : MH) (r : Option Value) (h' : MH) (x : Nat) (off : Int) (tgt : Nat), Fe μ pc (.ifnonnull off) 3 → ((pc : Int) + off = (tgt : Int)) → X d μ tgt L S h r h' → X d μ pc L (.ref x :: S) h r h'
def cl_ifnonnullN (X : XT) : Prop := ∀ (d : Nat) (μ : Mth) (pc : Nat) (L : Lcl) (S : List Value) (h : MH) (r : Option Value) (h' : MH) (off : Int), Fe μ pc (.ifnonnull off) 3 → X d μ (pc + 3) L S h r h' → X d μ pc L (.null :: S) h r h'
def cl_ifnull (X : XT) : Prop := ∀ (d : Nat) (μ : Mth) (pc : Nat) (L : Lcl) (S : List Value) (h : MH) (r : Option Value) (h' : MH) (x : Nat) (off : Int), Fe μ pc (.ifnull off) 3 → X d μ (pc + 3) L S h r h' → X d μ pc L (.ref x :: S) h r h'
def cl_ifnullN (X : XT) : Prop := ∀ (d : Nat) (μ : Mth) (pc : Nat) (L : Lcl) (S : List Value) (h : MH) (r : Option Value) (h' : MH) (off : Int) (tgt : Nat), Fe μ pc (.ifnull off) 3 → ((pc : Int) + off = (tgt : Int)) → X d μ tgt L S h r h' → X d μ pc L (.null :: S) h r h'
def cl_tableIn (X : XT) : Prop := ∀ (d : Nat) (μ : Mth) (pc : Nat) (L : Lcl) (S : List Value) (h : MH) (r : Option Value) (h' : MH) (dflt lo hi : Int) (offs : Array Int) (len : Nat) (x : Int32) (off : Int) (tgt : Nat), Fe μ pc (.tableswitch dflt lo hi offs) len → (¬ x.toInt < lo) → (¬ hi < x.toInt) → (offs[(x.toInt - lo).toNat]? = some off) → ((pc : Int) + off = (tgt : Int)) → X d μ tgt L S h r h' → X d μ pc L (.int x :: S) h r h'
def cl_tableOut (X : XT) : Prop := ∀ (d : Nat) (μ : Mth) (pc : Nat) (L : Lcl) (S : List Value) (h : MH) (r : Option Value) (h' : MH) (dflt lo hi : Int) (offs : Array Int) (len : Nat) (x : Int32) (tgt : Nat), Fe μ pc (.tableswitch dflt lo hi offs) len → (x.toInt < lo ∨ hi < x.toInt) → ((pc : Int) + dflt = (tgt : Int)) → X d μ tgt L S h r h' → X d μ pc L (.int x :: S) h r h'
def cl_lookup (X : XT) : Prop := ∀ (d : Nat) (μ : Mth) (pc : Nat) (L : Lcl) (S : List Value) (h : MH) (r : Option Value) (h' : MH) (dflt : Int) (ps : Array (Int × Int)) (len : Nat) (x : Int32) (off : Int) (tgt : Nat), Fe μ pc (.lookupswitch dflt ps) len → ((ps.toList.zip (ps.toList.drop 1)).all (fun (a, next) => a.1 < next.1) = true) → (Op.lookupswitch.offset ps.toList dflt x.toInt = off) → ((pc : Int) + off = (tgt : Int)) → X d μ tgt L S h r h' → X d μ pc L (.int x :: S) h r h'
def cl_getI (X : XT) : Prop := ∀ (d : Nat) (μ : Mth) (pc : Nat) (L : Lcl) (S : List Value) (h : MH) (r : Option Value) (h' : MH) (i ci k n idx : Nat) (ty : FieldType) (fin : Bool), Fe μ pc (.getfield idx) 3 → (FLk μ.1.cls idx ci k n ty fin) → (rfF ci k = false) → (isA h i ci n) → X d μ (pc + 3) L (.int (hI h i k) :: S) h r h' → X d μ pc L (.ref i :: S) h r h'
def cl_getR (X : XT) : Prop := ∀ (d : Nat) (μ : Mth) (pc : Nat) (L : Lcl) (S : List Value) (h : MH) (r : Option Value) (h' : MH) (i ci k n idx j : Nat) (ty : FieldType) (fin : Bool), Fe μ pc (.getfield idx) 3 → (FLk μ.1.cls idx ci k n ty fin) → (rfF ci k = true) → (isA h i ci n) → (hR h i k = some j) → X d μ (pc + 3) L (.ref j :: S) h r h' → X d μ pc L (.ref i :: S) h r h'
def cl_putI (X : XT) : Prop := ∀ (d : Nat) (μ : Mth) (pc : Nat) (L : Lcl) (S : List Value) (h : MH) (r : Option Value) (h' : MH) (i ci k n idx : Nat) (ty : FieldType) (v : Int32), Fe μ pc (.putfield idx) 3 → (FLk μ.1.cls idx ci k n ty false) → (rfF ci k = false) → (isA h i ci n) → (narrow ty (.int v) = .int v) → (fits ty (.int v) = true) → X d μ (pc + 3) L S (putI h i k v) r h' → X d μ pc L (.int v :: .ref i :: S) h r h'
def cl_putIF (X : XT) : Prop := ∀ (d : Nat) (μ : Mth) (pc : Nat) (L : Lcl) (S : List Value) (h : MH) (r : Option Value) (h' : MH) (i ci k n idx : Nat) (ty : FieldType) (v : Int32), Fe μ pc (.putfield idx) 3 → (FLk μ.1.cls idx ci k n ty true) → (rfF ci k = false) → (isA h i ci n) → (narrow ty (.int v) = .int v) → (fits ty (.int v) = true) → (μ.1.name = "<init>" ∧ (vwCl[ci]?).map (·.1) = some μ.1.cls) → X d μ (pc + 3) L S (putI h i k v) r h' → X d μ pc L (.int v :: .ref i :: S) h r h'
def cl_putRF (X : XT) : Prop := ∀ (d : Nat) (μ : Mth) (pc : Nat) (L : Lcl) (S : List Value) (h : MH) (r : Option Value) (h' : MH) (i ci k n idx j : Nat) (ty : FieldType), Fe μ pc (.putfield idx) 3 → (FLk μ.1.cls idx ci k n ty true) → (rfF ci k = true) → (isA h i ci n) → (tyR ty) → (μ.1.name = "<init>" ∧ (vwCl[ci]?).map (·.1) = some μ.1.cls) → X d μ (pc + 3) L S (putR h i k (some j)) r h' → X d μ pc L (.ref j :: .ref i :: S) h r h'
def cl_iald (X : XT) : Prop := ∀ (d : Nat) (μ : Mth) (pc : Nat) (L : Lcl) (S : List Value) (h : MH) (r : Option Value) (h' : MH) (i n : Nat) (x : Int32), Fe μ pc .iaload 1 → (isA h i 100 n) → (vp_in x n) → X d μ (pc + 1) L (.int (hI h i x.toNatClampNeg) :: S) h r h' → X d μ pc L (.int x :: .ref i :: S) h r h'
def cl_iast (X : XT) : Prop := ∀ (d : Nat) (μ : Mth) (pc : Nat) (L : Lcl) (S : List Value) (h : MH) (r : Option Value) (h' : MH) (i n : Nat) (x v : Int32), Fe μ pc .iastore 1 → (isA h i 100 n) → (vp_in x n) → X d μ (pc + 1) L S (putI h i x.toNatClampNeg v) r h' → X d μ pc L (.int v :: .int x :: .ref i :: S) h r h'
def cl_aald (X : XT) : Prop := ∀ (d : Nat) (μ : Mth) (pc : Nat) (L : Lcl) (S : List Value) (h : MH) (r : Option Value) (h' : MH) (i n e0 j : Nat) (x : Int32), Fe μ pc .aaload 1 → (e0 < 5) → (isA h i (101 + e0) n) → (vp_in x n) → (hR h i x.toNatClampNeg = some j) → X d μ (pc + 1) L (.ref j :: S) h r h' → X d μ pc L (.int x :: .ref i :: S) h r h'
def cl_aaldN (X : XT) : Prop := ∀ (d : Nat) (μ : Mth) (pc : Nat) (L : Lcl) (S : List Value) (h : MH) (r : Option Value) (h' : MH) (i n e0 : Nat) (x : Int32), Fe μ pc .aaload 1 → (e0 < 5) → (isA h i (101 + e0) n) → (vp_in x n) → (hR h i x.toNatClampNeg = none) → X d μ (pc + 1) L (.null :: S) h r h' → X d μ pc L (.int x :: .ref i :: S) h r h'
def cl_aast (X : XT) : Prop := ∀ (d : Nat) (μ : Mth) (pc : Nat) (L : Lcl) (S : List Value) (h : MH) (r : Option Value) (h' : MH) (i n e0 j ci nc : Nat) (x : Int32), Fe μ pc .aastore 1 → (elC[e0]? = some ci) → (isA h i (101 + e0) n) → (vp_in x n) → (isA h j ci nc) → X d μ (pc + 1) L S (putR h i x.toNatClampNeg (some j)) r h' → X d μ pc L (.ref j :: .int x :: .ref i :: S) h r h'
def cl_aastS (X : XT) : Prop := ∀ (d : Nat) (μ : Mth) (pc : Nat) (L : Lcl) (S : List Value) (h : MH) (r : Option Value) (h' : MH) (i n j : Nat) (x : Int32), Fe μ pc .aastore 1 → (isA h i 105 n) → (vp_in x n) → (j < 14) → X d μ (pc + 1) L S (putR h i x.toNatClampNeg (some (1000000 + j))) r h' → X d μ pc L (.ref (1000000 + j) :: .int x :: .ref i :: S) h r h'
def cl_alen (X : XT) : Prop := ∀ (d : Nat) (μ : Mth) (pc : Nat) (L : Lcl) (S : List Value) (h : MH) (r : Option Value) (h' : MH) (i t n : Nat), Fe μ pc .arraylength 1 → (100 ≤ t ∧ t < 106) → (isA h i t n) → X d μ (pc + 1) L (.int (Int32.ofNat n) :: S) h r h' → X d μ pc L (.ref i :: S) h r h'
def cl_newa (X : XT) : Prop := ∀ (d : Nat) (μ : Mth) (pc : Nat) (L : Lcl) (S : List Value) (h : MH) (r : Option Value) (h' : MH) (x : Int32) (n : Nat), Fe μ pc (.newarray .int) 2 → (¬ x < 0) → (x.toNatClampNeg = n) → (n ≤ 100000) → (hz h < 1000000) → X d μ (pc + 2) L (.ref (hz h) :: S) (alloc h 100 n) r h' → X d μ pc L (.int x :: S) h r h'
def cl_anew (X : XT) : Prop := ∀ (d : Nat) (μ : Mth) (pc : Nat) (L : Lcl) (S : List Value) (h : MH) (r : Option Value) (h' : MH) (x : Int32) (n e0 idx : Nat) (Cn : String), Fe μ pc (.anewarray idx) 3 → (elN[e0]? = some Cn) → (Cond.classLink μ.1.cls idx Cn ∈ GW) → (¬ x < 0) → (x.toNatClampNeg = n) → (n ≤ 100000) → (hz h < 1000000) → X d μ (pc + 3) L (.ref (hz h) :: S) (alloc h (101 + e0) n) r h' → X d μ pc L (.int x :: S) h r h'
def cl_new (X : XT) : Prop := ∀ (d : Nat) (μ : Mth) (pc : Nat) (L : Lcl) (S : List Value) (h : MH) (r : Option Value) (h' : MH) (idx ci n : Nat), Fe μ pc (.new idx) 3 → (NLk μ.1.cls idx ci n) → (hz h < 1000000) → X d μ (pc + 3) L (.ref (hz h) :: S) (alloc h ci n) r h' → X d μ pc L S h r h'
def cl_strV (X : XT) : Prop := ∀ (d : Nat) (μ : Mth) (pc : Nat) (L : Lcl) (S : List Value) (h : MH) (r : Option Value) (h' : MH) (j idx : Nat), Fe μ pc (.getfield idx) 3 → (Cond.fieldLink μ.1.cls idx "java/lang/String" "value" "[B" ∈ GW) → (j < 14) → X d μ (pc + 3) L (.ref (1000100 + j) :: S) h r h' → X d μ pc L (.ref (1000000 + j) :: S) h r h'
def cl_strC (X : XT) : Prop := ∀ (d : Nat) (μ : Mth) (pc : Nat) (L : Lcl) (S : List Value) (h : MH) (r : Option Value) (h' : MH) (j idx : Nat), Fe μ pc (.getfield idx) 3 → (Cond.fieldLink μ.1.cls idx "java/lang/String" "coder" "B" ∈ GW) → (j < 14) → X d μ (pc + 3) L (.int 0 :: S) h r h' → X d μ pc L (.ref (1000000 + j) :: S) h r h'
def cl_bald (X : XT) : Prop := ∀ (d : Nat) (μ : Mth) (pc : Nat) (L : Lcl) (S : List Value) (h : MH) (r : Option Value) (h' : MH) (j : Nat) (x : Int32), Fe μ pc .baload 1 → (j < 14) → (vp_in x (strs.getD j []).length) → X d μ (pc + 1) L (.int ((strs.getD j []).getD x.toNatClampNeg 0) :: S) h r h' → X d μ pc L (.int x :: .ref (1000100 + j) :: S) h r h'
def cl_blen (X : XT) : Prop := ∀ (d : Nat) (μ : Mth) (pc : Nat) (L : Lcl) (S : List Value) (h : MH) (r : Option Value) (h' : MH) (j : Nat), Fe μ pc .arraylength 1 → (j < 14) → X d μ (pc + 1) L (.int (Int32.ofNat (strs.getD j []).length) :: S) h r h' → X d μ pc L (.ref (1000100 + j) :: S) h r h'
def cl_gsC (X : XT) : Prop := ∀ (d : Nat) (μ : Mth) (pc : Nat) (L : Lcl) (S : List Value) (h : MH) (r : Option Value) (h' : MH) (idx : Nat), Fe μ pc (.getstatic idx) 3 → (Cond.fieldLink μ.1.cls idx "java/lang/String" "COMPACT_STRINGS" "Z" ∈ GW) → X d μ (pc + 3) L (.int 1 :: S) h r h' → X d μ pc L S h r h'
def cl_gsF (X : XT) : Prop := ∀ (d : Nat) (μ : Mth) (pc : Nat) (L : Lcl) (S : List Value) (h : MH) (r : Option Value) (h' : MH) (idx : Nat), Fe μ pc (.getstatic idx) 3 → (Cond.fieldLink μ.1.cls idx "jdk/internal/util/Preconditions" "SIOOBE_FORMATTER" "Ljava/util/function/BiFunction;" ∈ GW) → X d μ (pc + 3) L (h.1.2.2 :: S) h r h' → X d μ pc L S h r h'
def cl_gsA (X : XT) : Prop := ∀ (d : Nat) (μ : Mth) (pc : Nat) (L : Lcl) (S : List Value) (h : MH) (r : Option Value) (h' : MH) (idx : Nat), Fe μ pc (.getstatic idx) 3 → (Cond.fieldLinkNest μ.1.cls idx "ShortCut" "ABOVE" "[I" "ShortCut" ∈ NW) → X d μ (pc + 3) L (.ref 1000200 :: S) h r h' → X d μ pc L S h r h'
def cl_abld (X : XT) : Prop := ∀ (d : Nat) (μ : Mth) (pc : Nat) (L : Lcl) (S : List Value) (h : MH) (r : Option Value) (h' : MH) (x : Int32), Fe μ pc .iaload 1 → (vp_in x 6) → X d μ (pc + 1) L (.int (aboveL.getD x.toNatClampNeg 0) :: S) h r h' → X d μ pc L (.int x :: .ref 1000200 :: S) h r h'
def cl_scld (X : XT) : Prop := ∀ (d : Nat) (μ : Mth) (pc : Nat) (L : Lcl) (S : List Value) (h : MH) (r : Option Value) (h' : MH) (x : Int32), Fe μ pc .iaload 1 → (vp_in x h.1.2.1) → X d μ (pc + 1) L (.int (h.1.1 x.toNatClampNeg) :: S) h r h' → X d μ pc L (.int x :: .ref 1000300 :: S) h r h'
def cl_sclen (X : XT) : Prop := ∀ (d : Nat) (μ : Mth) (pc : Nat) (L : Lcl) (S : List Value) (h : MH) (r : Option Value) (h' : MH) , Fe μ pc .arraylength 1 → X d μ (pc + 1) L (.int (Int32.ofNat h.1.2.1) :: S) h r h' → X d μ pc L (.ref 1000300 :: S) h r h'
def cl_acopy (X : XT) : Prop := ∀ (d : Nat) (μ : Mth) (pc : Nat) (L : Lcl) (S : List Value) (h : MH) (r : Option Value) (h' : MH) (idx i j n0 n1 : Nat) (sp dp n : Int32), Fe μ pc (.invokestatic idx) 3 → (Cond.methodLink μ.1.cls idx arraycopyName ∈ GW) → (0 < d) → ((S.map fun v => v.category).sum ≤ 8) → (isA h i 100 n0) → (isA h j 100 n1) → (¬ sp < 0) → (¬ dp < 0) → (¬ n < 0) → (sp.toNatClampNeg + n.toNatClampNeg ≤ n0) → (dp.toNatClampNeg + n.toNatClampNeg ≤ n1) → X d μ (pc + 3) L S (rowI h j (va_cpy (hI h i) (hI h j) sp.toNatClampNeg dp.toNatClampNeg n.toNatClampNeg)) r h' → X d μ pc L (.int n :: .int dp :: .ref j :: .int sp :: .ref i :: S) h r h'
def cl_objInit (X : XT) : Prop := ∀ (d : Nat) (μ : Mth) (pc : Nat) (L : Lcl) (S : List Value) (h : MH) (r : Option Value) (h' : MH) (idx i : Nat), Fe μ pc (.invokespecial idx) 3 → (Cond.methodLink μ.1.cls idx objectInit ∈ GW) → (0 < d) → ((S.map fun v => v.category).sum ≤ 8) → X d μ (pc + 3) L S h r h' → X d μ pc L (.ref i :: S) h r h'
def cl_mmax (X : XT) : Prop := ∀ (d : Nat) (μ : Mth) (pc : Nat) (L : Lcl) (S : List Value) (h : MH) (r : Option Value) (h' : MH) (idx : Nat) (x y : Int32), Fe μ pc (.invokestatic idx) 3 → (Cond.methodLink μ.1.cls idx Lib.Math.max.name ∈ GW) → (0 < d) → ((S.map fun v => v.category).sum ≤ 8) → X d μ (pc + 3) L (.int (jmax x y) :: S) h r h' → X d μ pc L (.int y :: .int x :: S) h r h'
def cl_mmin (X : XT) : Prop := ∀ (d : Nat) (μ : Mth) (pc : Nat) (L : Lcl) (S : List Value) (h : MH) (r : Option Value) (h' : MH) (idx : Nat) (x y : Int32), Fe μ pc (.invokestatic idx) 3 → (Cond.methodLink μ.1.cls idx Lib.Math.min.name ∈ GW) → (0 < d) → ((S.map fun v => v.category).sum ≤ 8) → X d μ (pc + 3) L (.int (jmin x y) :: S) h r h' → X d μ pc L (.int y :: .int x :: S) h r h'
def cl_mabs (X : XT) : Prop := ∀ (d : Nat) (μ : Mth) (pc : Nat) (L : Lcl) (S : List Value) (h : MH) (r : Option Value) (h' : MH) (idx : Nat) (x : Int32), Fe μ pc (.invokestatic idx) 3 → (Cond.methodLink μ.1.cls idx Lib.Math.abs.name ∈ GW) → (0 < d) → ((S.map fun v => v.category).sum ≤ 8) → X d μ (pc + 3) L (.int (jabs x) :: S) h r h' → X d μ pc L (.int x :: S) h r h'
def cl_cS (X : XT) : Prop := ∀ (d : Nat) (μ : Mth) (pc : Nat) (L : Lcl) (S : List Value) (h : MH) (r : Option Value) (h' : MH) (idx : Nat) (ν : Mth) (As : List Value) (d1 : Nat) (r1 : Option Value) (h1 : MH), Fe μ pc (.invokestatic idx) 3 → d1 < d → (S.map fun v => v.category).sum ≤ 8 → okA As ν.2.2.1 = true → (MOk ν As.length) → (MLs μ.1.cls idx ν) → X d1 ν 0 (ent As ν.2.2.1) [] h r1 h1 → X d μ (pc + 3) L (psh r1 S) h1 r h' → X d μ pc L (As.reverse ++ S) h r h'
def cl_cN (X : XT) : Prop := ∀ (d : Nat) (μ : Mth) (pc : Nat) (L : Lcl) (S : List Value) (h : MH) (r : Option Value) (h' : MH) (idx : Nat) (ν : Mth) (As : List Value) (d1 : Nat) (r1 : Option Value) (h1 : MH), Fe μ pc (.invokestatic idx) 3 → d1 < d → (S.map fun v => v.category).sum ≤ 8 → okA As ν.2.2.1 = true → (MOk ν As.length) → (MLn μ.1.cls idx ν) → X d1 ν 0 (ent As ν.2.2.1) [] h r1 h1 → X d μ (pc + 3) L (psh r1 S) h1 r h' → X d μ pc L (As.reverse ++ S) h r h'
def cl_cV (X : XT) : Prop := ∀ (d : Nat) (μ : Mth) (pc : Nat) (L : Lcl) (S : List Value) (h : MH) (r : Option Value) (h' : MH) (idx i ci n : Nat) (Cn : String) (ν : Mth) (As : List Value) (d1 : Nat) (r1 : Option Value) (h1 : MH), Fe μ pc (.invokevirtual idx) 3 → d1 < d → (S.map fun v => v.category).sum ≤ 8 → okA (.ref i :: As) ν.2.2.1 = true → (MOk ν As.length) → (MLv μ.1.cls idx Cn ν) → ((vwCl[ci]?).map (·.1) = some Cn) → (isA h i ci n) → X d1 ν 0 (ent (.ref i :: As) ν.2.2.1) [] h r1 h1 → X d μ (pc + 3) L (psh r1 S) h1 r h' → X d μ pc L (As.reverse ++ .ref i :: S) h r h'
def cl_cT (X : XT) : Prop := ∀ (d : Nat) (μ : Mth) (pc : Nat) (L : Lcl) (S : List Value) (h : MH) (r : Option Value) (h' : MH) (idx j : Nat) (ν : Mth) (As : List Value) (d1 : Nat) (r1 : Option Value) (h1 : MH), Fe μ pc (.invokevirtual idx) 3 → d1 < d → (S.map fun v => v.category).sum ≤ 8 → okA (.ref (1000000 + j) :: As) ν.2.2.1 = true → (MOk ν As.length) → (MLv μ.1.cls idx "java/lang/String" ν) → (j < 14) → X d1 ν 0 (ent (.ref (1000000 + j) :: As) ν.2.2.1) [] h r1 h1 → X d μ (pc + 3) L (psh r1 S) h1 r h' → X d μ pc L (As.reverse ++ .ref (1000000 + j) :: S) h r h'
def cl_cI (X : XT) : Prop := ∀ (d : Nat) (μ : Mth) (pc : Nat) (L : Lcl) (S : List Value) (h : MH) (r : Option Value) (h' : MH) (idx i : Nat) (ν : Mth) (As : List Value) (d1 : Nat) (r1 : Option Value) (h1 : MH), Fe μ pc (.invokespecial idx) 3 → d1 < d → (S.map fun v => v.category).sum ≤ 8 → okA (.ref i :: As) ν.2.2.1 = true → (MOk ν As.length) → (MLi μ.1.cls idx ν) → X d1 ν 0 (ent (.ref i :: As) ν.2.2.1) [] h r1 h1 → X d μ (pc + 3) L (psh r1 S) h1 r h' → X d μ pc L (As.reverse ++ .ref i :: S) h r h'
def cl_cJ (X : XT) : Prop := ∀ (d : Nat) (μ : Mth) (pc : Nat) (L : Lcl) (S : List Value) (h : MH) (r : Option Value) (h' : MH) (idx i : Nat) (ν : Mth) (As : List Value) (d1 : Nat) (r1 : Option Value) (h1 : MH), Fe μ pc (.invokespecial idx) 3 → d1 < d → (S.map fun v => v.category).sum ≤ 8 → okA (.ref i :: As) ν.2.2.1 = true → (MOk ν As.length) → (MLj μ.1.cls idx ν) → X d1 ν 0 (ent (.ref i :: As) ν.2.2.1) [] h r1 h1 → X d μ (pc + 3) L (psh r1 S) h1 r h' → X d μ pc L (As.reverse ++ .ref i :: S) h r h'
def cl_retI (X : XT) : Prop := ∀ (d : Nat) (μ : Mth) (pc : Nat) (L : Lcl) (h : MH) (v : Int32) (ty : FieldType), Fe μ pc .ireturn 1 → (μ.2.2.2 = some ty) → (narrow ty (.int v) = .int v) → X d μ pc L [.int v] h (some (.int v)) h
def cl_retA (X : XT) : Prop := ∀ (d : Nat) (μ : Mth) (pc : Nat) (L : Lcl) (h : MH) (i : Nat) (ty : FieldType), Fe μ pc .areturn 1 → (μ.2.2.2 = some ty) → (tyR ty) → X d μ pc L [.ref i] h (some (.ref i)) h
def cl_retN (X : XT) : Prop := ∀ (d : Nat) (μ : Mth) (pc : Nat) (L : Lcl) (h : MH) (ty : FieldType), Fe μ pc .areturn 1 → (μ.2.2.2 = some ty) → (tyR ty) → X d μ pc L [.null] h (some .null) h
def cl_retV (X : XT) : Prop := ∀ (d : Nat) (μ : Mth) (pc : Nat) (L : Lcl) (h : MH) , Fe μ pc .return_ 1 → (μ.2.2.2 = none) → X d μ pc L [] h none h
def Clo0 (X : XT) : Prop := cl_iconst X ∧ cl_bipush X ∧ cl_sipush X ∧ cl_ldc X ∧ cl_ldcw X ∧ cl_null X ∧ cl_ldcS X ∧ cl_iload_n X ∧ cl_iload X ∧ cl_aload_n X
def Clo1 (X : XT) : Prop := cl_aload X ∧ cl_aload_nN X ∧ cl_aloadN X ∧ cl_istore_n X ∧ cl_istore X ∧ cl_astore_n X ∧ cl_astore X ∧ cl_astore_nN X ∧ cl_astoreN X ∧ cl_iinc X
def Clo2 (X : XT) : Prop := cl_iadd X ∧ cl_isub X ∧ cl_imul X ∧ cl_iand X ∧ cl_ior X ∧ cl_ishl X ∧ cl_ishr X ∧ cl_idiv X ∧ cl_irem X ∧ cl_ineg X
def Clo3 (X : XT) : Prop := cl_iushr X ∧ cl_i2l X ∧ cl_ladd X ∧ cl_lcmp X ∧ cl_i2b X ∧ cl_i2s X ∧ cl_i2c X ∧ cl_dup X ∧ cl_dup2 X ∧ cl_pop X
def Clo4 (X : XT) : Prop := cl_goto X ∧ cl_if_eq_t X ∧ cl_if_eq_f X ∧ cl_if_ne_t X ∧ cl_if_ne_f X ∧ cl_if_lt_t X ∧ cl_if_lt_f X ∧ cl_if_ge_t X ∧ cl_if_ge_f X ∧ cl_if_gt_t X
def Clo5 (X : XT) : Prop := cl_if_gt_f X ∧ cl_if_le_t X ∧ cl_if_le_f X ∧ cl_icmp_eq_t X ∧ cl_icmp_eq_f X ∧ cl_icmp_ne_t X ∧ cl_icmp_ne_f X ∧ cl_icmp_lt_t X ∧ cl_icmp_lt_f X ∧ cl_icmp_ge_t X
def Clo6 (X : XT) : Prop := cl_icmp_ge_f X ∧ cl_icmp_gt_t X ∧ cl_icmp_gt_f X ∧ cl_icmp_le_t X ∧ cl_icmp_le_f X ∧ cl_ifnonnull X ∧ cl_ifnonnullN X ∧ cl_ifnull X ∧ cl_ifnullN X ∧ cl_tableIn X
def Clo7 (X : XT) : Prop := cl_tableOut X ∧ cl_lookup X ∧ cl_getI X ∧ cl_getR X ∧ cl_putI X ∧ cl_putIF X ∧ cl_putRF X ∧ cl_iald X ∧ cl_iast X ∧ cl_aald X
def Clo8 (X : XT) : Prop := cl_aaldN X ∧ cl_aast X ∧ cl_aastS X ∧ cl_alen X ∧ cl_newa X ∧ cl_anew X ∧ cl_new X ∧ cl_strV X ∧ cl_strC X ∧ cl_bald X
def Clo9 (X : XT) : Prop := cl_blen X ∧ cl_gsC X ∧ cl_gsF X ∧ cl_gsA X ∧ cl_abld X ∧ cl_scld X ∧ cl_sclen X ∧ cl_acopy X ∧ cl_objInit X ∧ cl_mmax X
def Clo10 (X : XT) : Prop := cl_mmin X ∧ cl_mabs X ∧ cl_cS X ∧ cl_cN X ∧ cl_cV X ∧ cl_cT X ∧ cl_cI X ∧ cl_cJ X ∧ cl_retI X ∧ cl_retA X
def Clo11 (X : XT) : Prop := cl_retN X ∧ cl_retV X
def Clo (X : XT) : Prop := Clo0 X ∧ Clo1 X ∧ Clo2 X ∧ Clo3 X ∧ Clo4 X ∧ Clo5 X ∧ Clo6 X ∧ Clo7 X ∧ Clo8 X ∧ Clo9 X ∧ Clo10 X ∧ Clo11 X
def Rn (d : Nat) (μ : Mth) (pc : Nat) (L : Lcl) (S : List Value) (h : MH) (r : Option Value) (h' : MH) : Prop := ∀ X : XT, Clo X → X d μ pc L S h r h'
/-- the heap in two: what is where (g), and the ints (I) -/
abbrev Geo : Type := ((Nat → Int32) × Nat × Value) × (Nat → Nat × Nat) × Nat × Nat × (Nat → Nat → Option Nat)
abbrev IM : Type := Nat → Nat → Int32
abbrev gk (g : Geo) : Nat → Nat × Nat := g.2.1
abbrev gz (g : Geo) : Nat := g.2.2.1
abbrev gs (g : Geo) : Nat := g.2.2.2.1
abbrev gR (g : Geo) : Nat → Nat → Option Nat := g.2.2.2.2
def mk (g : Geo) (I : IM) : MH := (g.1, g.2.1, g.2.2.1, g.2.2.2.1, I, g.2.2.2.2)
def isAg (g : Geo) (i t n : Nat) : Prop := i < gz g ∧ gk g i = (t, n)
def pI (I : IM) (i k : Nat) (v : Int32) : IM := va_up I i (va_up (I i) k v)
def gpR (g : Geo) (i k : Nat) (v : Option Nat) : Geo := (g.1, g.2.1, g.2.2.1, g.2.2.2.1, va_up (gR g) i (va_up (gR g i) k v))
def galloc (g : Geo) (t n : Nat) : Geo := (g.1, va_up (gk g) (gz g) (t, n), gz g + 1, gs g + n, va_up (gR g) (gz g) (fun _ => none))
def R (d : Nat) (μ : Mth) (pc : Nat) (L : Lcl) (S : List Value) (g : Geo) (I : IM) (P : Option Value → Geo → IM → Prop) : Prop := ∃ (r : Option Value) (g' : Geo) (I' : IM), Rn d μ pc L S (mk g I) r (mk g' I') ∧ P r g' I'
/-- a call: the method's run from its entry -/
def C (d : Nat) (ν : Mth) (As : List Value) (g : Geo) (I : IM) (K : Option Value → Geo → IM → Prop) : Prop := R d ν 0 (ent As ν.2.2.1) [] g I K
section RR
variable {d : Nat} {μ : Mth} {pc : Nat} {L : Lcl} {S : List Value} {g : Geo} {I : IM} {P : Option Value → Geo → IM → Prop}
theorem R_iconst {n : Int} {v : Int32} (hf : Fe μ pc (.iconst n) 1) (hv : Int32.ofInt n = v) (kR : R d μ (pc + 1) L (.int v :: S) g I P) : R d μ pc L S g I P := by
  obtain ⟨r, g', I', kR, hp⟩ := kR
  exact ⟨r, g', I', fun X cX => (cX.1).1 d μ pc L S (mk g I) r (mk g' I') n v hf hv (kR X cX), hp⟩
theorem R_bipush {n : Int} {v : Int32} (hf : Fe μ pc (.bipush n) 2) (hv : (Int8.ofInt n).toInt32 = v) (kR : R d μ (pc + 2) L (.int v :: S) g I P) : R d μ pc L S g I P := by
  obtain ⟨r, g', I', kR, hp⟩ := kR
  exact ⟨r, g', I', fun X cX => (cX.1).2.1 d μ pc L S (mk g I) r (mk g' I') n v hf hv (kR X cX), hp⟩
theorem R_sipush {n : Int} {v : Int32} (hf : Fe μ pc (.sipush n) 3) (hv : (Int16.ofInt n).toInt32 = v) (kR : R d μ (pc + 3) L (.int v :: S) g I P) : R d μ pc L S g I P := by
  obtain ⟨r, g', I', kR, hp⟩ := kR
  exact ⟨r, g', I', fun X cX => (cX.1).2.2.1 d μ pc L S (mk g I) r (mk g' I') n v hf hv (kR X cX), hp⟩
theorem R_ldc {idx : Nat} {v : Int32} (hf : Fe μ pc (.ldc idx) 2) (hv : Cond.constant μ.1.cls idx v ∈ GW) (kR : R d μ (pc + 2) L (.int v :: S) g I P) : R d μ pc L S g I P := by
  obtain ⟨r, g', I', kR, hp⟩ := kR
  exact ⟨r, g', I', fun X cX => (cX.1).2.2.2.1 d μ pc L S (mk g I) r (mk g' I') idx v hf hv (kR X cX), hp⟩
theorem R_ldcw {idx : Nat} {v : Int32} (hf : Fe μ pc (.ldc_w idx) 3) (hv : Cond.constant μ.1.cls idx v ∈ GW) (kR : R d μ (pc + 3) L (.int v :: S) g I P) : R d μ pc L S g I P := by
  obtain ⟨r, g', I', kR, hp⟩ := kR
  exact ⟨r, g', I', fun X cX => (cX.1).2.2.2.2.1 d μ pc L S (mk g I) r (mk g' I') idx v hf hv (kR X cX), hp⟩
theorem R_null  (hf : Fe μ pc .aconst_null 1) (kR : R d μ (pc + 1) L (.null :: S) g I P) : R d μ pc L S g I P := by
  obtain ⟨r, g', I', kR, hp⟩ := kR
  exact ⟨r, g', I', fun X cX => (cX.1).2.2.2.2.2.1 d μ pc L S (mk g I) r (mk g' I')  hf  (kR X cX), hp⟩
theorem R_ldcS {idx : Nat} {tx : String} {j : Nat} (hf : Fe μ pc (.ldc idx) 2) (hv : (μ.1.cls, idx, tx, j) ∈ strW) (kR : R d μ (pc + 2) L (.ref (1000000 + j) :: S) g I P) : R d μ pc L S g I P := by
  obtain ⟨r, g', I', kR, hp⟩ := kR
  exact ⟨r, g', I', fun X cX => (cX.1).2.2.2.2.2.2.1 d μ pc L S (mk g I) r (mk g' I') idx tx j hf hv (kR X cX), hp⟩
theorem R_iload_n {i : Fin 4} {x : Int32} (hf : Fe μ pc (.iload_n i) 1) (hl : L[(i : Nat)]? = some (some (.int x))) (kR : R d μ (pc + 1) L (.int x :: S) g I P) : R d μ pc L S g I P := by
  obtain ⟨r, g', I', kR, hp⟩ := kR
  exact ⟨r, g', I', fun X cX => (cX.1).2.2.2.2.2.2.2.1 d μ pc L S (mk g I) r (mk g' I') i x hf hl (kR X cX), hp⟩
theorem R_iload {i : Nat} {x : Int32} (hf : Fe μ pc (.iload i) 2) (hl : L[i]? = some (some (.int x))) (kR : R d μ (pc + 2) L (.int x :: S) g I P) : R d μ pc L S g I P := by
  obtain ⟨r, g', I', kR, hp⟩ := kR
  exact ⟨r, g', I', fun X cX => (cX.1).2.2.2.2.2.2.2.2.1 d μ pc L S (mk g I) r (mk g' I') i x hf hl (kR X cX), hp⟩
theorem R_aload_n {i : Fin 4} {x : Nat} (hf : Fe μ pc (.aload_n i) 1) (hl : L[(i : Nat)]? = some (some (.ref x))) (kR : R d μ (pc + 1) L (.ref x :: S) g I P) : R d μ pc L S g I P := by
  obtain ⟨r, g', I', kR, hp⟩ := kR
  exact ⟨r, g', I', fun X cX => (cX.1).2.2.2.2.2.2.2.2.2 d μ pc L S (mk g I) r (mk g' I') i x hf hl (kR X cX), hp⟩
theorem R_aload {i : Nat} {x : Nat} (hf : Fe μ pc (.aload i) 2) (hl : L[i]? = some (some (.ref x))) (kR : R d μ (pc + 2) L (.ref x :: S) g I P) : R d μ pc L S g I P := by
  obtain ⟨r, g', I', kR, hp⟩ := kR
  exact ⟨r, g', I', fun X cX => (cX.2.1).1 d μ pc L S (mk g I) r (mk g' I') i x hf hl (kR X cX), hp⟩
theorem R_aload_nN {i : Fin 4} (hf : Fe μ pc (.aload_n i) 1) (hl : L[(i : Nat)]? = some (some .null)) (kR : R d μ (pc + 1) L (.null :: S) g I P) : R d μ pc L S g I P := by
  obtain ⟨r, g', I', kR, hp⟩ := kR
  exact ⟨r, g', I', fun X cX => (cX.2.1).2.1 d μ pc L S (mk g I) r (mk g' I') i hf hl (kR X cX), hp⟩
theorem R_aloadN {i : Nat} (hf : Fe μ pc (.aload i) 2) (hl : L[i]? = some (some .null)) (kR : R d μ (pc + 2) L (.null :: S) g I P) : R d μ pc L S g I P := by
  obtain ⟨r, g', I', kR, hp⟩ := kR
  exact ⟨r, g', I', fun X cX => (cX.2.1).2.2.1 d μ pc L S (mk g I) r (mk g' I') i hf hl (kR X cX), hp⟩
theorem R_istore_n {i : Fin 4} {x : Int32} (hf : Fe μ pc (.istore_n i) 1) (hi : (i : Nat) < L.length) (kR : R d μ (pc + 1) (L.set (i : Nat) (some (.int x))) S g I P) : R d μ pc L ((.int x) :: S) g I P := by
  obtain ⟨r, g', I', kR, hp⟩ := kR
  exact ⟨r, g', I', fun X cX => (cX.2.1).2.2.2.1 d μ pc L S (mk g I) r (mk g' I') i x hf hi (kR X cX), hp⟩
theorem R_istore {i : Nat} {x : Int32} (hf : Fe μ pc (.istore i) 2) (hi : i < L.length) (kR : R d μ (pc + 2) (L.set i (some (.int x))) S g I P) : R d μ pc L ((.int x) :: S) g I P := by
  obtain ⟨r, g', I', kR, hp⟩ := kR
  exact ⟨r, g', I', fun X cX => (cX.2.1).2.2.2.2.1 d μ pc L S (mk g I) r (mk g' I') i x hf hi (kR X cX), hp⟩
theorem R_astore_n {i : Fin 4} {x : Nat} (hf : Fe μ pc (.astore_n i) 1) (hi : (i : Nat) < L.length) (kR : R d μ (pc + 1) (L.set (i : Nat) (some (.ref x))) S g I P) : R d μ pc L ((.ref x) :: S) g I P := by
  obtain ⟨r, g', I', kR, hp⟩ := kR
  exact ⟨r, g', I', fun X cX => (cX.2.1).2.2.2.2.2.1 d μ pc L S (mk g I) r (mk g' I') i x hf hi (kR X cX), hp⟩
theorem R_astore {i : Nat} {x : Nat} (hf : Fe μ pc (.astore i) 2) (hi : i < L.length) (kR : R d μ (pc + 2) (L.set i (some (.ref x))) S g I P) : R d μ pc L ((.ref x) :: S) g I P := by
  obtain ⟨r, g', I', kR, hp⟩ := kR
  exact ⟨r, g', I', fun X cX => (cX.2.1).2.2.2.2.2.2.1 d μ pc L S (mk g I) r (mk g' I') i x hf hi (kR X cX), hp⟩
theorem R_astore_nN {i : Fin 4} (hf : Fe μ pc (.astore_n i) 1) (hi : (i : Nat) < L.length) (kR : R d μ (pc + 1) (L.set (i : Nat) (some .null)) S g I P) : R d μ pc L (.null :: S) g I P := by
  obtain ⟨r, g', I', kR, hp⟩ := kR
  exact ⟨r, g', I', fun X cX => (cX.2.1).2.2.2.2.2.2.2.1 d μ pc L S (mk g I) r (mk g' I') i hf hi (kR X cX), hp⟩
theorem R_astoreN {i : Nat} (hf : Fe μ pc (.astore i) 2) (hi : i < L.length) (kR : R d μ (pc + 2) (L.set i (some .null)) S g I P) : R d μ pc L (.null :: S) g I P := by
  obtain ⟨r, g', I', kR, hp⟩ := kR
  exact ⟨r, g', I', fun X cX => (cX.2.1).2.2.2.2.2.2.2.2.1 d μ pc L S (mk g I) r (mk g' I') i hf hi (kR X cX), hp⟩
theorem R_iinc {i : Nat} {n : Int} {x v : Int32} (hf : Fe μ pc (.iinc i n) 3) (hl : L[i]? = some (some (.int x))) (hv : Int32.ofInt n = v) (kR : R d μ (pc + 3) (L.set i (some (.int (x + v)))) S g I P) : R d μ pc L S g I P := by
  obtain ⟨r, g', I', kR, hp⟩ := kR
  exact ⟨r, g', I', fun X cX => (cX.2.1).2.2.2.2.2.2.2.2.2 d μ pc L S (mk g I) r (mk g' I') i n x v hf hl hv (kR X cX), hp⟩
theorem R_iadd {x y : Int32} (hf : Fe μ pc .iadd 1) (kR : R d μ (pc + 1) L (.int (x + y) :: S) g I P) : R d μ pc L (.int y :: .int x :: S) g I P := by
  obtain ⟨r, g', I', kR, hp⟩ := kR
  exact ⟨r, g', I', fun X cX => (cX.2.2.1).1 d μ pc L S (mk g I) r (mk g' I') x y hf  (kR X cX), hp⟩
theorem R_isub {x y : Int32} (hf : Fe μ pc .isub 1) (kR : R d μ (pc + 1) L (.int (x - y) :: S) g I P) : R d μ pc L (.int y :: .int x :: S) g I P := by
  obtain ⟨r, g', I', kR, hp⟩ := kR
  exact ⟨r, g', I', fun X cX => (cX.2.2.1).2.1 d μ pc L S (mk g I) r (mk g' I') x y hf  (kR X cX), hp⟩
theorem R_imul {x y : Int32} (hf : Fe μ pc .imul 1) (kR : R d μ (pc + 1) L (.int (x * y) :: S) g I P) : R d μ pc L (.int y :: .int x :: S) g I P := by
  obtain ⟨r, g', I', kR, hp⟩ := kR
  exact ⟨r, g', I', fun X cX => (cX.2.2.1).2.2.1 d μ pc L S (mk g I) r (mk g' I') x y hf  (kR X cX), hp⟩
theorem R_iand {x y : Int32} (hf : Fe μ pc .iand 1) (kR : R d μ (pc + 1) L (.int (x &&& y) :: S) g I P) : R d μ pc L (.int y :: .int x :: S) g I P := by
  obtain ⟨r, g', I', kR, hp⟩ := kR
  exact ⟨r, g', I', fun X cX => (cX.2.2.1).2.2.2.1 d μ pc L S (mk g I) r (mk g' I') x y hf  (kR X cX), hp⟩
theorem R_ior {x y : Int32} (hf : Fe μ pc .ior 1) (kR : R d μ (pc + 1) L (.int (x ||| y) :: S) g I P) : R d μ pc L (.int y :: .int x :: S) g I P := by
  obtain ⟨r, g', I', kR, hp⟩ := kR
  exact ⟨r, g', I', fun X cX => (cX.2.2.1).2.2.2.2.1 d μ pc L S (mk g I) r (mk g' I') x y hf  (kR X cX), hp⟩
theorem R_ishl {x y : Int32} (hf : Fe μ pc .ishl 1) (kR : R d μ (pc + 1) L (.int (x <<< (y &&& 31)) :: S) g I P) : R d μ pc L (.int y :: .int x :: S) g I P := by
  obtain ⟨r, g', I', kR, hp⟩ := kR
  exact ⟨r, g', I', fun X cX => (cX.2.2.1).2.2.2.2.2.1 d μ pc L S (mk g I) r (mk g' I') x y hf  (kR X cX), hp⟩
theorem R_ishr {x y : Int32} (hf : Fe μ pc .ishr 1) (kR : R d μ (pc + 1) L (.int (x >>> (y &&& 31)) :: S) g I P) : R d μ pc L (.int y :: .int x :: S) g I P := by
  obtain ⟨r, g', I', kR, hp⟩ := kR
  exact ⟨r, g', I', fun X cX => (cX.2.2.1).2.2.2.2.2.2.1 d μ pc L S (mk g I) r (mk g' I') x y hf  (kR X cX), hp⟩
theorem R_idiv {x y : Int32} (hf : Fe μ pc .idiv 1) (hne : ¬ y = 0) (kR : R d μ (pc + 1) L (.int (x / y) :: S) g I P) : R d μ pc L (.int y :: .int x :: S) g I P := by
  obtain ⟨r, g', I', kR, hp⟩ := kR
  exact ⟨r, g', I', fun X cX => (cX.2.2.1).2.2.2.2.2.2.2.1 d μ pc L S (mk g I) r (mk g' I') x y hf hne (kR X cX), hp⟩
theorem R_irem {x y : Int32} (hf : Fe μ pc .irem 1) (hne : ¬ y = 0) (kR : R d μ (pc + 1) L (.int (x - x / y * y) :: S) g I P) : R d μ pc L (.int y :: .int x :: S) g I P := by
  obtain ⟨r, g', I', kR, hp⟩ := kR
  exact ⟨r, g', I', fun X cX => (cX.2.2.1).2.2.2.2.2.2.2.2.1 d μ pc L S (mk g I) r (mk g' I') x y hf hne (kR X cX), hp⟩
theorem R_ineg {x : Int32} (hf : Fe μ pc .ineg 1) (kR : R d μ (pc + 1) L (.int (-x) :: S) g I P) : R d μ pc L (.int x :: S) g I P := by
  obtain ⟨r, g', I', kR, hp⟩ := kR
  exact ⟨r, g', I', fun X cX => (cX.2.2.1).2.2.2.2.2.2.2.2.2 d μ pc L S (mk g I) r (mk g' I') x hf  (kR X cX), hp⟩
theorem R_iushr {x y : Int32} (hf : Fe μ pc .iushr 1) (kR : R d μ (pc + 1) L (.int (x.toUInt32 >>> (y.toUInt32 &&& Int32.toUInt32 31)).toInt32 :: S) g I P) : R d μ pc L (.int y :: .int x :: S) g I P := by
  obtain ⟨r, g', I', kR, hp⟩ := kR
  exact ⟨r, g', I', fun X cX => (cX.2.2.2.1).1 d μ pc L S (mk g I) r (mk g' I') x y hf  (kR X cX), hp⟩
theorem R_i2l {x : Int32} (hf : Fe μ pc .i2l 1) (kR : R d μ (pc + 1) L (.long x.toInt64 :: S) g I P) : R d μ pc L (.int x :: S) g I P := by
  obtain ⟨r, g', I', kR, hp⟩ := kR
  exact ⟨r, g', I', fun X cX => (cX.2.2.2.1).2.1 d μ pc L S (mk g I) r (mk g' I') x hf  (kR X cX), hp⟩
theorem R_ladd {x y : Int64} (hf : Fe μ pc .ladd 1) (kR : R d μ (pc + 1) L (.long (x + y) :: S) g I P) : R d μ pc L (.long y :: .long x :: S) g I P := by
  obtain ⟨r, g', I', kR, hp⟩ := kR
  exact ⟨r, g', I', fun X cX => (cX.2.2.2.1).2.2.1 d μ pc L S (mk g I) r (mk g' I') x y hf  (kR X cX), hp⟩
theorem R_lcmp {x y : Int64} (hf : Fe μ pc .lcmp 1) (kR : R d μ (pc + 1) L (.int (lg_cmp x y) :: S) g I P) : R d μ pc L (.long y :: .long x :: S) g I P := by
  obtain ⟨r, g', I', kR, hp⟩ := kR
  exact ⟨r, g', I', fun X cX => (cX.2.2.2.1).2.2.2.1 d μ pc L S (mk g I) r (mk g' I') x y hf  (kR X cX), hp⟩
theorem R_i2b {x : Int32} (hf : Fe μ pc .i2b 1) (kR : R d μ (pc + 1) L (.int x.toInt8.toInt32 :: S) g I P) : R d μ pc L (.int x :: S) g I P := by
  obtain ⟨r, g', I', kR, hp⟩ := kR
  exact ⟨r, g', I', fun X cX => (cX.2.2.2.1).2.2.2.2.1 d μ pc L S (mk g I) r (mk g' I') x hf  (kR X cX), hp⟩
theorem R_i2s {x : Int32} (hf : Fe μ pc .i2s 1) (kR : R d μ (pc + 1) L (.int x.toInt16.toInt32 :: S) g I P) : R d μ pc L (.int x :: S) g I P := by
  obtain ⟨r, g', I', kR, hp⟩ := kR
  exact ⟨r, g', I', fun X cX => (cX.2.2.2.1).2.2.2.2.2.1 d μ pc L S (mk g I) r (mk g' I') x hf  (kR X cX), hp⟩
theorem R_i2c {x : Int32} (hf : Fe μ pc .i2c 1) (kR : R d μ (pc + 1) L (.int (x.toUInt32 % 65536).toInt32 :: S) g I P) : R d μ pc L (.int x :: S) g I P := by
  obtain ⟨r, g', I', kR, hp⟩ := kR
  exact ⟨r, g', I', fun X cX => (cX.2.2.2.1).2.2.2.2.2.2.1 d μ pc L S (mk g I) r (mk g' I') x hf  (kR X cX), hp⟩
theorem R_dup {v : Value} (hf : Fe μ pc .dup 1) (hv : v.category = 1) (kR : R d μ (pc + 1) L (v :: v :: S) g I P) : R d μ pc L (v :: S) g I P := by
  obtain ⟨r, g', I', kR, hp⟩ := kR
  exact ⟨r, g', I', fun X cX => (cX.2.2.2.1).2.2.2.2.2.2.2.1 d μ pc L S (mk g I) r (mk g' I') v hf hv (kR X cX), hp⟩
theorem R_dup2 {v w : Value} (hf : Fe μ pc .dup2 1) (hv : v.category = 1) (hw : w.category = 1) (kR : R d μ (pc + 1) L (v :: w :: v :: w :: S) g I P) : R d μ pc L (v :: w :: S) g I P := by
  obtain ⟨r, g', I', kR, hp⟩ := kR
  exact ⟨r, g', I', fun X cX => (cX.2.2.2.1).2.2.2.2.2.2.2.2.1 d μ pc L S (mk g I) r (mk g' I') v w hf hv hw (kR X cX), hp⟩
theorem R_pop {v : Value} (hf : Fe μ pc .pop 1) (hv : v.category = 1) (kR : R d μ (pc + 1) L S g I P) : R d μ pc L (v :: S) g I P := by
  obtain ⟨r, g', I', kR, hp⟩ := kR
  exact ⟨r, g', I', fun X cX => (cX.2.2.2.1).2.2.2.2.2.2.2.2.2 d μ pc L S (mk g I) r (mk g' I') v hf hv (kR X cX), hp⟩
theorem R_goto {off : Int} {tgt : Nat} (hf : Fe μ pc (.goto off) 3) (ht : (pc : Int) + off = (tgt : Int)) (kR : R d μ tgt L S g I P) : R d μ pc L S g I P := by
  obtain ⟨r, g', I', kR, hp⟩ := kR
  exact ⟨r, g', I', fun X cX => (cX.2.2.2.2.1).1 d μ pc L S (mk g I) r (mk g' I') off tgt hf ht (kR X cX), hp⟩
theorem R_if_eq_t {x : Int32} {off : Int} {tgt : Nat} (hf : Fe μ pc (.ifCond .eq off) 3) (ht : (pc : Int) + off = (tgt : Int)) (hc : x = 0) (kR : R d μ tgt L S g I P) : R d μ pc L (.int x :: S) g I P := by
  obtain ⟨r, g', I', kR, hp⟩ := kR
  exact ⟨r, g', I', fun X cX => (cX.2.2.2.2.1).2.1 d μ pc L S (mk g I) r (mk g' I') x off tgt hf ht hc (kR X cX), hp⟩
theorem R_if_eq_f {x : Int32} {off : Int} {tgt : Nat} (hf : Fe μ pc (.ifCond .eq off) 3) (ht : (pc : Int) + off = (tgt : Int)) (hc : ¬ (x = 0)) (kR : R d μ (pc + 3) L S g I P) : R d μ pc L (.int x :: S) g I P := by
  obtain ⟨r, g', I', kR, hp⟩ := kR
  exact ⟨r, g', I', fun X cX => (cX.2.2.2.2.1).2.2.1 d μ pc L S (mk g I) r (mk g' I') x off tgt hf ht hc (kR X cX), hp⟩
theorem R_if_ne_t {x : Int32} {off : Int} {tgt : Nat} (hf : Fe μ pc (.ifCond .ne off) 3) (ht : (pc : Int) + off = (tgt : Int)) (hc : ¬ x = 0) (kR : R d μ tgt L S g I P) : R d μ pc L (.int x :: S) g I P := by
  obtain ⟨r, g', I', kR, hp⟩ := kR
  exact ⟨r, g', I', fun X cX => (cX.2.2.2.2.1).2.2.2.1 d μ pc L S (mk g I) r (mk g' I') x off tgt hf ht hc (kR X cX), hp⟩
theorem R_if_ne_f {x : Int32} {off : Int} {tgt : Nat} (hf : Fe μ pc (.ifCond .ne off) 3) (ht : (pc : Int) + off = (tgt : Int)) (hc : ¬ (¬ x = 0)) (kR : R d μ (pc + 3) L S g I P) : R d μ pc L (.int x :: S) g I P := by
  obtain ⟨r, g', I', kR, hp⟩ := kR
  exact ⟨r, g', I', fun X cX => (cX.2.2.2.2.1).2.2.2.2.1 d μ pc L S (mk g I) r (mk g' I') x off tgt hf ht hc (kR X cX), hp⟩
theorem R_if_lt_t {x : Int32} {off : Int} {tgt : Nat} (hf : Fe μ pc (.ifCond .lt off) 3) (ht : (pc : Int) + off = (tgt : Int)) (hc : x < 0) (kR : R d μ tgt L S g I P) : R d μ pc L (.int x :: S) g I P := by
  obtain ⟨r, g', I', kR, hp⟩ := kR
  exact ⟨r, g', I', fun X cX => (cX.2.2.2.2.1).2.2.2.2.2.1 d μ pc L S (mk g I) r (mk g' I') x off tgt hf ht hc (kR X cX), hp⟩
theorem R_if_lt_f {x : Int32} {off : Int} {tgt : Nat} (hf : Fe μ pc (.ifCond .lt off) 3) (ht : (pc : Int) + off = (tgt : Int)) (hc : ¬ (x < 0)) (kR : R d μ (pc + 3) L S g I P) : R d μ pc L (.int x :: S) g I P := by
  obtain ⟨r, g', I', kR, hp⟩ := kR
  exact ⟨r, g', I', fun X cX => (cX.2.2.2.2.1).2.2.2.2.2.2.1 d μ pc L S (mk g I) r (mk g' I') x off tgt hf ht hc (kR X cX), hp⟩
theorem R_if_ge_t {x : Int32} {off : Int} {tgt : Nat} (hf : Fe μ pc (.ifCond .ge off) 3) (ht : (pc : Int) + off = (tgt : Int)) (hc : 0 ≤ x) (kR : R d μ tgt L S g I P) : R d μ pc L (.int x :: S) g I P := by
  obtain ⟨r, g', I', kR, hp⟩ := kR
  exact ⟨r, g', I', fun X cX => (cX.2.2.2.2.1).2.2.2.2.2.2.2.1 d μ pc L S (mk g I) r (mk g' I') x off tgt hf ht hc (kR X cX), hp⟩
theorem R_if_ge_f {x : Int32} {off : Int} {tgt : Nat} (hf : Fe μ pc (.ifCond .ge off) 3) (ht : (pc : Int) + off = (tgt : Int)) (hc : ¬ (0 ≤ x)) (kR : R d μ (pc + 3) L S g I P) : R d μ pc L (.int x :: S) g I P := by
  obtain ⟨r, g', I', kR, hp⟩ := kR
  exact ⟨r, g', I', fun X cX => (cX.2.2.2.2.1).2.2.2.2.2.2.2.2.1 d μ pc L S (mk g I) r (mk g' I') x off tgt hf ht hc (kR X cX), hp⟩
theorem R_if_gt_t {x : Int32} {off : Int} {tgt : Nat} (hf : Fe μ pc (.ifCond .gt off) 3) (ht : (pc : Int) + off = (tgt : Int)) (hc : 0 < x) (kR : R d μ tgt L S g I P) : R d μ pc L (.int x :: S) g I P := by
  obtain ⟨r, g', I', kR, hp⟩ := kR
  exact ⟨r, g', I', fun X cX => (cX.2.2.2.2.1).2.2.2.2.2.2.2.2.2 d μ pc L S (mk g I) r (mk g' I') x off tgt hf ht hc (kR X cX), hp⟩
theorem R_if_gt_f {x : Int32} {off : Int} {tgt : Nat} (hf : Fe μ pc (.ifCond .gt off) 3) (ht : (pc : Int) + off = (tgt : Int)) (hc : ¬ (0 < x)) (kR : R d μ (pc + 3) L S g I P) : R d μ pc L (.int x :: S) g I P := by
  obtain ⟨r, g', I', kR, hp⟩ := kR
  exact ⟨r, g', I', fun X cX => (cX.2.2.2.2.2.1).1 d μ pc L S (mk g I) r (mk g' I') x off tgt hf ht hc (kR X cX), hp⟩
theorem R_if_le_t {x : Int32} {off : Int} {tgt : Nat} (hf : Fe μ pc (.ifCond .le off) 3) (ht : (pc : Int) + off = (tgt : Int)) (hc : x ≤ 0) (kR : R d μ tgt L S g I P) : R d μ pc L (.int x :: S) g I P := by
  obtain ⟨r, g', I', kR, hp⟩ := kR
  exact ⟨r, g', I', fun X cX => (cX.2.2.2.2.2.1).2.1 d μ pc L S (mk g I) r (mk g' I') x off tgt hf ht hc (kR X cX), hp⟩
theorem R_if_le_f {x : Int32} {off : Int} {tgt : Nat} (hf : Fe μ pc (.ifCond .le off) 3) (ht : (pc : Int) + off = (tgt : Int)) (hc : ¬ (x ≤ 0)) (kR : R d μ (pc + 3) L S g I P) : R d μ pc L (.int x :: S) g I P := by
  obtain ⟨r, g', I', kR, hp⟩ := kR
  exact ⟨r, g', I', fun X cX => (cX.2.2.2.2.2.1).2.2.1 d μ pc L S (mk g I) r (mk g' I') x off tgt hf ht hc (kR X cX), hp⟩
theorem R_icmp_eq_t {x y : Int32} {off : Int} {tgt : Nat} (hf : Fe μ pc (.if_icmp .eq off) 3) (ht : (pc : Int) + off = (tgt : Int)) (hc : x = y) (kR : R d μ tgt L S g I P) : R d μ pc L (.int y :: .int x :: S) g I P := by
  obtain ⟨r, g', I', kR, hp⟩ := kR
  exact ⟨r, g', I', fun X cX => (cX.2.2.2.2.2.1).2.2.2.1 d μ pc L S (mk g I) r (mk g' I') x y off tgt hf ht hc (kR X cX), hp⟩
theorem R_icmp_eq_f {x y : Int32} {off : Int} {tgt : Nat} (hf : Fe μ pc (.if_icmp .eq off) 3) (ht : (pc : Int) + off = (tgt : Int)) (hc : ¬ (x = y)) (kR : R d μ (pc + 3) L S g I P) : R d μ pc L (.int y :: .int x :: S) g I P := by
  obtain ⟨r, g', I', kR, hp⟩ := kR
  exact ⟨r, g', I', fun X cX => (cX.2.2.2.2.2.1).2.2.2.2.1 d μ pc L S (mk g I) r (mk g' I') x y off tgt hf ht hc (kR X cX), hp⟩
theorem R_icmp_ne_t {x y : Int32} {off : Int} {tgt : Nat} (hf : Fe μ pc (.if_icmp .ne off) 3) (ht : (pc : Int) + off = (tgt : Int)) (hc : ¬ x = y) (kR : R d μ tgt L S g I P) : R d μ pc L (.int y :: .int x :: S) g I P := by
  obtain ⟨r, g', I', kR, hp⟩ := kR
  exact ⟨r, g', I', fun X cX => (cX.2.2.2.2.2.1).2.2.2.2.2.1 d μ pc L S (mk g I) r (mk g' I') x y off tgt hf ht hc (kR X cX), hp⟩
theorem R_icmp_ne_f {x y : Int32} {off : Int} {tgt : Nat} (hf : Fe μ pc (.if_icmp .ne off) 3) (ht : (pc : Int) + off = (tgt : Int)) (hc : ¬ (¬ x = y)) (kR : R d μ (pc + 3) L S g I P) : R d μ pc L (.int y :: .int x :: S) g I P := by
  obtain ⟨r, g', I', kR, hp⟩ := kR
  exact ⟨r, g', I', fun X cX => (cX.2.2.2.2.2.1).2.2.2.2.2.2.1 d μ pc L S (mk g I) r (mk g' I') x y off tgt hf ht hc (kR X cX), hp⟩
theorem R_icmp_lt_t {x y : Int32} {off : Int} {tgt : Nat} (hf : Fe μ pc (.if_icmp .lt off) 3) (ht : (pc : Int) + off = (tgt : Int)) (hc : x < y) (kR : R d μ tgt L S g I P) : R d μ pc L (.int y :: .int x :: S) g I P := by
  obtain ⟨r, g', I', kR, hp⟩ := kR
  exact ⟨r, g', I', fun X cX => (cX.2.2.2.2.2.1).2.2.2.2.2.2.2.1 d μ pc L S (mk g I) r (mk g' I') x y off tgt hf ht hc (kR X cX), hp⟩
theorem R_icmp_lt_f {x y : Int32} {off : Int} {tgt : Nat} (hf : Fe μ pc (.if_icmp .lt off) 3) (ht : (pc : Int) + off = (tgt : Int)) (hc : ¬ (x < y)) (kR : R d μ (pc + 3) L S g I P) : R d μ pc L (.int y :: .int x :: S) g I P := by
  obtain ⟨r, g', I', kR, hp⟩ := kR
  exact ⟨r, g', I', fun X cX => (cX.2.2.2.2.2.1).2.2.2.2.2.2.2.2.1 d μ pc L S (mk g I) r (mk g' I') x y off tgt hf ht hc (kR X cX), hp⟩
theorem R_icmp_ge_t {x y : Int32} {off : Int} {tgt : Nat} (hf : Fe μ pc (.if_icmp .ge off) 3) (ht : (pc : Int) + off = (tgt : Int)) (hc : y ≤ x) (kR : R d μ tgt L S g I P) : R d μ pc L (.int y :: .int x :: S) g I P := by
  obtain ⟨r, g', I', kR, hp⟩ := kR
  exact ⟨r, g', I', fun X cX => (cX.2.2.2.2.2.1).2.2.2.2.2.2.2.2.2 d μ pc L S (mk g I) r (mk g' I') x y off tgt hf ht hc (kR X cX), hp⟩
theorem R_icmp_ge_f {x y : Int32} {off : Int} {tgt : Nat} (hf : Fe μ pc (.if_icmp .ge off) 3) (ht : (pc : Int) + off = (tgt : Int)) (hc : ¬ (y ≤ x)) (kR : R d μ (pc + 3) L S g I P) : R d μ pc L (.int y :: .int x :: S) g I P := by
  obtain ⟨r, g', I', kR, hp⟩ := kR
  exact ⟨r, g', I', fun X cX => (cX.2.2.2.2.2.2.1).1 d μ pc L S (mk g I) r (mk g' I') x y off tgt hf ht hc (kR X cX), hp⟩
theorem R_icmp_gt_t {x y : Int32} {off : Int} {tgt : Nat} (hf : Fe μ pc (.if_icmp .gt off) 3) (ht : (pc : Int) + off = (tgt : Int)) (hc : y < x) (kR : R d μ tgt L S g I P) : R d μ pc L (.int y :: .int x :: S) g I P := by
  obtain ⟨r, g', I', kR, hp⟩ := kR
  exact ⟨r, g', I', fun X cX => (cX.2.2.2.2.2.2.1).2.1 d μ pc L S (mk g I) r (mk g' I') x y off tgt hf ht hc (kR X cX), hp⟩
theorem R_icmp_gt_f {x y : Int32} {off : Int} {tgt : Nat} (hf : Fe μ pc (.if_icmp .gt off) 3) (ht : (pc : Int) + off = (tgt : Int)) (hc : ¬ (y < x)) (kR : R d μ (pc + 3) L S g I P) : R d μ pc L (.int y :: .int x :: S) g I P := by
  obtain ⟨r, g', I', kR, hp⟩ := kR
  exact ⟨r, g', I', fun X cX => (cX.2.2.2.2.2.2.1).2.2.1 d μ pc L S (mk g I) r (mk g' I') x y off tgt hf ht hc (kR X cX), hp⟩
theorem R_icmp_le_t {x y : Int32} {off : Int} {tgt : Nat} (hf : Fe μ pc (.if_icmp .le off) 3) (ht : (pc : Int) + off = (tgt : Int)) (hc : x ≤ y) (kR : R d μ tgt L S g I P) : R d μ pc L (.int y :: .int x :: S) g I P := by
  obtain ⟨r, g', I', kR, hp⟩ := kR
  exact ⟨r, g', I', fun X cX => (cX.2.2.2.2.2.2.1).2.2.2.1 d μ pc L S (mk g I) r (mk g' I') x y off tgt hf ht hc (kR X cX), hp⟩
theorem R_icmp_le_f {x y : Int32} {off : Int} {tgt : Nat} (hf : Fe μ pc (.if_icmp .le off) 3) (ht : (pc : Int) + off = (tgt : Int)) (hc : ¬ (x ≤ y)) (kR : R d μ (pc + 3) L S g I P) : R d μ pc L (.int y :: .int x :: S) g I P := by
  obtain ⟨r, g', I', kR, hp⟩ := kR
  exact ⟨r, g', I', fun X cX => (cX.2.2.2.2.2.2.1).2.2.2.2.1 d μ pc L S (mk g I) r (mk g' I') x y off tgt hf ht hc (kR X cX), hp⟩
theorem R_ifnonnull {x : Nat} {off : Int} {tgt : Nat} (hf : Fe μ pc (.ifnonnull off) 3) (ht : (pc : Int) + off = (tgt : Int)) (kR : R d μ tgt L S g I P) : R d μ pc L (.ref x :: S) g I P := by
  obtain ⟨r, g', I', kR, hp⟩ := kR
  exact ⟨r, g', I', fun X cX => (cX.2.2.2.2.2.2.1).2.2.2.2.2.1 d μ pc L S (mk g I) r (mk g' I') x off tgt hf ht (kR X cX), hp⟩
theorem R_ifnonnullN {off : Int} (hf : Fe μ pc (.ifnonnull off) 3) (kR : R d μ (pc + 3) L S g I P) : R d μ pc L (.null :: S) g I P := by
  obtain ⟨r, g', I', kR, hp⟩ := kR
  exact ⟨r, g', I', fun X cX => (cX.2.2.2.2.2.2.1).2.2.2.2.2.2.1 d μ pc L S (mk g I) r (mk g' I') off hf  (kR X cX), hp⟩
theorem R_ifnull {x : Nat} {off : Int} (hf : Fe μ pc (.ifnull off) 3) (kR : R d μ (pc + 3) L S g I P) : R d μ pc L (.ref x :: S) g I P := by
  obtain ⟨r, g', I', kR, hp⟩ := kR
  exact ⟨r, g', I', fun X cX => (cX.2.2.2.2.2.2.1).2.2.2.2.2.2.2.1 d μ pc L S (mk g I) r (mk g' I') x off hf  (kR X cX), hp⟩
theorem R_ifnullN {off : Int} {tgt : Nat} (hf : Fe μ pc (.ifnull off) 3) (ht : (pc : Int) + off = (tgt : Int)) (kR : R d μ tgt L S g I P) : R d μ pc L (.null :: S) g I P := by
  obtain ⟨r, g', I', kR, hp⟩ := kR
  exact ⟨r, g', I', fun X cX => (cX.2.2.2.2.2.2.1).2.2.2.2.2.2.2.2.1 d μ pc L S (mk g I) r (mk g' I') off tgt hf ht (kR X cX), hp⟩
theorem R_tableIn {dflt lo hi : Int} {offs : Array Int} {len : Nat} {x : Int32} {off : Int} {tgt : Nat} (hf : Fe μ pc (.tableswitch dflt lo hi offs) len) (h1 : ¬ x.toInt < lo) (h2 : ¬ hi < x.toInt) (ho : offs[(x.toInt - lo).toNat]? = some off) (ht : (pc : Int) + off = (tgt : Int)) (kR : R d μ tgt L S g I P) : R d μ pc L (.int x :: S) g I P := by
  obtain ⟨r, g', I', kR, hp⟩ := kR
  exact ⟨r, g', I', fun X cX => (cX.2.2.2.2.2.2.1).2.2.2.2.2.2.2.2.2 d μ pc L S (mk g I) r (mk g' I') dflt lo hi offs len x off tgt hf h1 h2 ho ht (kR X cX), hp⟩
theorem R_tableOut {dflt lo hi : Int} {offs : Array Int} {len : Nat} {x : Int32} {tgt : Nat} (hf : Fe μ pc (.tableswitch dflt lo hi offs) len) (h1 : x.toInt < lo ∨ hi < x.toInt) (ht : (pc : Int) + dflt = (tgt : Int)) (kR : R d μ tgt L S g I P) : R d μ pc L (.int x :: S) g I P := by
  obtain ⟨r, g', I', kR, hp⟩ := kR
  exact ⟨r, g', I', fun X cX => (cX.2.2.2.2.2.2.2.1).1 d μ pc L S (mk g I) r (mk g' I') dflt lo hi offs len x tgt hf h1 ht (kR X cX), hp⟩
theorem R_lookup {dflt : Int} {ps : Array (Int × Int)} {len : Nat} {x : Int32} {off : Int} {tgt : Nat} (hf : Fe μ pc (.lookupswitch dflt ps) len) (hps : (ps.toList.zip (ps.toList.drop 1)).all (fun (a, next) => a.1 < next.1) = true) (ho : Op.lookupswitch.offset ps.toList dflt x.toInt = off) (ht : (pc : Int) + off = (tgt : Int)) (kR : R d μ tgt L S g I P) : R d μ pc L (.int x :: S) g I P := by
  obtain ⟨r, g', I', kR, hp⟩ := kR
  exact ⟨r, g', I', fun X cX => (cX.2.2.2.2.2.2.2.1).2.1 d μ pc L S (mk g I) r (mk g' I') dflt ps len x off tgt hf hps ho ht (kR X cX), hp⟩
theorem R_getI {i ci k n idx : Nat} {ty : FieldType} {fin : Bool} (hf : Fe μ pc (.getfield idx) 3) (hl : FLk μ.1.cls idx ci k n ty fin) (hF : rfF ci k = false) (ha : isAg g i ci n) (kR : R d μ (pc + 3) L (.int (I i k) :: S) g I P) : R d μ pc L (.ref i :: S) g I P := by
  obtain ⟨r, g', I', kR, hp⟩ := kR
  exact ⟨r, g', I', fun X cX => (cX.2.2.2.2.2.2.2.1).2.2.1 d μ pc L S (mk g I) r (mk g' I') i ci k n idx ty fin hf hl hF ha (kR X cX), hp⟩
theorem R_getR {i ci k n idx j : Nat} {ty : FieldType} {fin : Bool} (hf : Fe μ pc (.getfield idx) 3) (hl : FLk μ.1.cls idx ci k n ty fin) (hF : rfF ci k = true) (ha : isAg g i ci n) (hj : gR g i k = some j) (kR : R d μ (pc + 3) L (.ref j :: S) g I P) : R d μ pc L (.ref i :: S) g I P := by
  obtain ⟨r, g', I', kR, hp⟩ := kR
  exact ⟨r, g', I', fun X cX => (cX.2.2.2.2.2.2.2.1).2.2.2.1 d μ pc L S (mk g I) r (mk g' I') i ci k n idx j ty fin hf hl hF ha hj (kR X cX), hp⟩
theorem R_putI {i ci k n idx : Nat} {ty : FieldType} {v : Int32} (hf : Fe μ pc (.putfield idx) 3) (hl : FLk μ.1.cls idx ci k n ty false) (hF : rfF ci k = false) (ha : isAg g i ci n) (hn : narrow ty (.int v) = .int v) (hfit : fits ty (.int v) = true) (kR : R d μ (pc + 3) L S g (pI I i k v) P) : R d μ pc L (.int v :: .ref i :: S) g I P := by
  obtain ⟨r, g', I', kR, hp⟩ := kR
  exact ⟨r, g', I', fun X cX => (cX.2.2.2.2.2.2.2.1).2.2.2.2.1 d μ pc L S (mk g I) r (mk g' I') i ci k n idx ty v hf hl hF ha hn hfit (kR X cX), hp⟩
theorem R_putIF {i ci k n idx : Nat} {ty : FieldType} {v : Int32} (hf : Fe μ pc (.putfield idx) 3) (hl : FLk μ.1.cls idx ci k n ty true) (hF : rfF ci k = false) (ha : isAg g i ci n) (hn : narrow ty (.int v) = .int v) (hfit : fits ty (.int v) = true) (hini : μ.1.name = "<init>" ∧ (vwCl[ci]?).map (·.1) = some μ.1.cls) (kR : R d μ (pc + 3) L S g (pI I i k v) P) : R d μ pc L (.int v :: .ref i :: S) g I P := by
  obtain ⟨r, g', I', kR, hp⟩ := kR
  exact ⟨r, g', I', fun X cX => (cX.2.2.2.2.2.2.2.1).2.2.2.2.2.1 d μ pc L S (mk g I) r (mk g' I') i ci k n idx ty v hf hl hF ha hn hfit hini (kR X cX), hp⟩
theorem R_putRF {i ci k n idx j : Nat} {ty : FieldType} (hf : Fe μ pc (.putfield idx) 3) (hl : FLk μ.1.cls idx ci k n ty true) (hF : rfF ci k = true) (ha : isAg g i ci n) (hty : tyR ty) (hini : μ.1.name = "<init>" ∧ (vwCl[ci]?).map (·.1) = some μ.1.cls) (kR : R d μ (pc + 3) L S (gpR g i k (some j)) I P) : R d μ pc L (.ref j :: .ref i :: S) g I P := by
  obtain ⟨r, g', I', kR, hp⟩ := kR
  exact ⟨r, g', I', fun X cX => (cX.2.2.2.2.2.2.2.1).2.2.2.2.2.2.1 d μ pc L S (mk g I) r (mk g' I') i ci k n idx j ty hf hl hF ha hty hini (kR X cX), hp⟩
theorem R_iald {i n : Nat} {x : Int32} (hf : Fe μ pc .iaload 1) (ha : isAg g i 100 n) (hin : vp_in x n) (kR : R d μ (pc + 1) L (.int (I i x.toNatClampNeg) :: S) g I P) : R d μ pc L (.int x :: .ref i :: S) g I P := by
  obtain ⟨r, g', I', kR, hp⟩ := kR
  exact ⟨r, g', I', fun X cX => (cX.2.2.2.2.2.2.2.1).2.2.2.2.2.2.2.1 d μ pc L S (mk g I) r (mk g' I') i n x hf ha hin (kR X cX), hp⟩
theorem R_iast {i n : Nat} {x v : Int32} (hf : Fe μ pc .iastore 1) (ha : isAg g i 100 n) (hin : vp_in x n) (kR : R d μ (pc + 1) L S g (pI I i x.toNatClampNeg v) P) : R d μ pc L (.int v :: .int x :: .ref i :: S) g I P := by
  obtain ⟨r, g', I', kR, hp⟩ := kR
  exact ⟨r, g', I', fun X cX => (cX.2.2.2.2.2.2.2.1).2.2.2.2.2.2.2.2.1 d μ pc L S (mk g I) r (mk g' I') i n x v hf ha hin (kR X cX), hp⟩
theorem R_aald {i n e0 j : Nat} {x : Int32} (hf : Fe μ pc .aaload 1) (he : e0 < 5) (ha : isAg g i (101 + e0) n) (hin : vp_in x n) (hj : gR g i x.toNatClampNeg = some j) (kR : R d μ (pc + 1) L (.ref j :: S) g I P) : R d μ pc L (.int x :: .ref i :: S) g I P := by
  obtain ⟨r, g', I', kR, hp⟩ := kR
  exact ⟨r, g', I', fun X cX => (cX.2.2.2.2.2.2.2.1).2.2.2.2.2.2.2.2.2 d μ pc L S (mk g I) r (mk g' I') i n e0 j x hf he ha hin hj (kR X cX), hp⟩
theorem R_aaldN {i n e0 : Nat} {x : Int32} (hf : Fe μ pc .aaload 1) (he : e0 < 5) (ha : isAg g i (101 + e0) n) (hin : vp_in x n) (hj : gR g i x.toNatClampNeg = none) (kR : R d μ (pc + 1) L (.null :: S) g I P) : R d μ pc L (.int x :: .ref i :: S) g I P := by
  obtain ⟨r, g', I', kR, hp⟩ := kR
  exact ⟨r, g', I', fun X cX => (cX.2.2.2.2.2.2.2.2.1).1 d μ pc L S (mk g I) r (mk g' I') i n e0 x hf he ha hin hj (kR X cX), hp⟩
theorem R_aast {i n e0 j ci nc : Nat} {x : Int32} (hf : Fe μ pc .aastore 1) (he : elC[e0]? = some ci) (ha : isAg g i (101 + e0) n) (hin : vp_in x n) (hb : isAg g j ci nc) (kR : R d μ (pc + 1) L S (gpR g i x.toNatClampNeg (some j)) I P) : R d μ pc L (.ref j :: .int x :: .ref i :: S) g I P := by
  obtain ⟨r, g', I', kR, hp⟩ := kR
  exact ⟨r, g', I', fun X cX => (cX.2.2.2.2.2.2.2.2.1).2.1 d μ pc L S (mk g I) r (mk g' I') i n e0 j ci nc x hf he ha hin hb (kR X cX), hp⟩
theorem R_aastS {i n j : Nat} {x : Int32} (hf : Fe μ pc .aastore 1) (ha : isAg g i 105 n) (hin : vp_in x n) (hb : j < 14) (kR : R d μ (pc + 1) L S (gpR g i x.toNatClampNeg (some (1000000 + j))) I P) : R d μ pc L (.ref (1000000 + j) :: .int x :: .ref i :: S) g I P := by
  obtain ⟨r, g', I', kR, hp⟩ := kR
  exact ⟨r, g', I', fun X cX => (cX.2.2.2.2.2.2.2.2.1).2.2.1 d μ pc L S (mk g I) r (mk g' I') i n j x hf ha hin hb (kR X cX), hp⟩
theorem R_alen {i t n : Nat} (hf : Fe μ pc .arraylength 1) (ht : 100 ≤ t ∧ t < 106) (ha : isAg g i t n) (kR : R d μ (pc + 1) L (.int (Int32.ofNat n) :: S) g I P) : R d μ pc L (.ref i :: S) g I P := by
  obtain ⟨r, g', I', kR, hp⟩ := kR
  exact ⟨r, g', I', fun X cX => (cX.2.2.2.2.2.2.2.2.1).2.2.2.1 d μ pc L S (mk g I) r (mk g' I') i t n hf ht ha (kR X cX), hp⟩
theorem R_newa {x : Int32} {n : Nat} (hf : Fe μ pc (.newarray .int) 2) (hx0 : ¬ x < 0) (hn : x.toNatClampNeg = n) (hb : n ≤ 100000) (hz0 : gz g < 1000000) (kR : R d μ (pc + 2) L (.ref (gz g) :: S) (galloc g 100 n) (va_up I (gz g) (fun _ => 0)) P) : R d μ pc L (.int x :: S) g I P := by
  obtain ⟨r, g', I', kR, hp⟩ := kR
  exact ⟨r, g', I', fun X cX => (cX.2.2.2.2.2.2.2.2.1).2.2.2.2.1 d μ pc L S (mk g I) r (mk g' I') x n hf hx0 hn hb hz0 (kR X cX), hp⟩
theorem R_anew {x : Int32} {n e0 idx : Nat} {Cn : String} (hf : Fe μ pc (.anewarray idx) 3) (he : elN[e0]? = some Cn) (hl : Cond.classLink μ.1.cls idx Cn ∈ GW) (hx0 : ¬ x < 0) (hn : x.toNatClampNeg = n) (hb : n ≤ 100000) (hz0 : gz g < 1000000) (kR : R d μ (pc + 3) L (.ref (gz g) :: S) (galloc g (101 + e0) n) (va_up I (gz g) (fun _ => 0)) P) : R d μ pc L (.int x :: S) g I P := by
  obtain ⟨r, g', I', kR, hp⟩ := kR
  exact ⟨r, g', I', fun X cX => (cX.2.2.2.2.2.2.2.2.1).2.2.2.2.2.1 d μ pc L S (mk g I) r (mk g' I') x n e0 idx Cn hf he hl hx0 hn hb hz0 (kR X cX), hp⟩
theorem R_new {idx ci n : Nat} (hf : Fe μ pc (.new idx) 3) (hl : NLk μ.1.cls idx ci n) (hz0 : gz g < 1000000) (kR : R d μ (pc + 3) L (.ref (gz g) :: S) (galloc g ci n) (va_up I (gz g) (fun _ => 0)) P) : R d μ pc L S g I P := by
  obtain ⟨r, g', I', kR, hp⟩ := kR
  exact ⟨r, g', I', fun X cX => (cX.2.2.2.2.2.2.2.2.1).2.2.2.2.2.2.1 d μ pc L S (mk g I) r (mk g' I') idx ci n hf hl hz0 (kR X cX), hp⟩
theorem R_strV {j idx : Nat} (hf : Fe μ pc (.getfield idx) 3) (hl : Cond.fieldLink μ.1.cls idx "java/lang/String" "value" "[B" ∈ GW) (hj : j < 14) (kR : R d μ (pc + 3) L (.ref (1000100 + j) :: S) g I P) : R d μ pc L (.ref (1000000 + j) :: S) g I P := by
  obtain ⟨r, g', I', kR, hp⟩ := kR
  exact ⟨r, g', I', fun X cX => (cX.2.2.2.2.2.2.2.2.1).2.2.2.2.2.2.2.1 d μ pc L S (mk g I) r (mk g' I') j idx hf hl hj (kR X cX), hp⟩
theorem R_strC {j idx : Nat} (hf : Fe μ pc (.getfield idx) 3) (hl : Cond.fieldLink μ.1.cls idx "java/lang/String" "coder" "B" ∈ GW) (hj : j < 14) (kR : R d μ (pc + 3) L (.int 0 :: S) g I P) : R d μ pc L (.ref (1000000 + j) :: S) g I P := by
  obtain ⟨r, g', I', kR, hp⟩ := kR
  exact ⟨r, g', I', fun X cX => (cX.2.2.2.2.2.2.2.2.1).2.2.2.2.2.2.2.2.1 d μ pc L S (mk g I) r (mk g' I') j idx hf hl hj (kR X cX), hp⟩
theorem R_bald {j : Nat} {x : Int32} (hf : Fe μ pc .baload 1) (hj : j < 14) (hin : vp_in x (strs.getD j []).length) (kR : R d μ (pc + 1) L (.int ((strs.getD j []).getD x.toNatClampNeg 0) :: S) g I P) : R d μ pc L (.int x :: .ref (1000100 + j) :: S) g I P := by
  obtain ⟨r, g', I', kR, hp⟩ := kR
  exact ⟨r, g', I', fun X cX => (cX.2.2.2.2.2.2.2.2.1).2.2.2.2.2.2.2.2.2 d μ pc L S (mk g I) r (mk g' I') j x hf hj hin (kR X cX), hp⟩
theorem R_blen {j : Nat} (hf : Fe μ pc .arraylength 1) (hj : j < 14) (kR : R d μ (pc + 1) L (.int (Int32.ofNat (strs.getD j []).length) :: S) g I P) : R d μ pc L (.ref (1000100 + j) :: S) g I P := by
  obtain ⟨r, g', I', kR, hp⟩ := kR
  exact ⟨r, g', I', fun X cX => (cX.2.2.2.2.2.2.2.2.2.1).1 d μ pc L S (mk g I) r (mk g' I') j hf hj (kR X cX), hp⟩
theorem R_gsC {idx : Nat} (hf : Fe μ pc (.getstatic idx) 3) (hl : Cond.fieldLink μ.1.cls idx "java/lang/String" "COMPACT_STRINGS" "Z" ∈ GW) (kR : R d μ (pc + 3) L (.int 1 :: S) g I P) : R d μ pc L S g I P := by
  obtain ⟨r, g', I', kR, hp⟩ := kR
  exact ⟨r, g', I', fun X cX => (cX.2.2.2.2.2.2.2.2.2.1).2.1 d μ pc L S (mk g I) r (mk g' I') idx hf hl (kR X cX), hp⟩
theorem R_gsF {idx : Nat} (hf : Fe μ pc (.getstatic idx) 3) (hl : Cond.fieldLink μ.1.cls idx "jdk/internal/util/Preconditions" "SIOOBE_FORMATTER" "Ljava/util/function/BiFunction;" ∈ GW) (kR : R d μ (pc + 3) L (g.1.2.2 :: S) g I P) : R d μ pc L S g I P := by
  obtain ⟨r, g', I', kR, hp⟩ := kR
  exact ⟨r, g', I', fun X cX => (cX.2.2.2.2.2.2.2.2.2.1).2.2.1 d μ pc L S (mk g I) r (mk g' I') idx hf hl (kR X cX), hp⟩
theorem R_gsA {idx : Nat} (hf : Fe μ pc (.getstatic idx) 3) (hl : Cond.fieldLinkNest μ.1.cls idx "ShortCut" "ABOVE" "[I" "ShortCut" ∈ NW) (kR : R d μ (pc + 3) L (.ref 1000200 :: S) g I P) : R d μ pc L S g I P := by
  obtain ⟨r, g', I', kR, hp⟩ := kR
  exact ⟨r, g', I', fun X cX => (cX.2.2.2.2.2.2.2.2.2.1).2.2.2.1 d μ pc L S (mk g I) r (mk g' I') idx hf hl (kR X cX), hp⟩
theorem R_abld {x : Int32} (hf : Fe μ pc .iaload 1) (hin : vp_in x 6) (kR : R d μ (pc + 1) L (.int (aboveL.getD x.toNatClampNeg 0) :: S) g I P) : R d μ pc L (.int x :: .ref 1000200 :: S) g I P := by
  obtain ⟨r, g', I', kR, hp⟩ := kR
  exact ⟨r, g', I', fun X cX => (cX.2.2.2.2.2.2.2.2.2.1).2.2.2.2.1 d μ pc L S (mk g I) r (mk g' I') x hf hin (kR X cX), hp⟩
theorem R_scld {x : Int32} (hf : Fe μ pc .iaload 1) (hin : vp_in x g.1.2.1) (kR : R d μ (pc + 1) L (.int (g.1.1 x.toNatClampNeg) :: S) g I P) : R d μ pc L (.int x :: .ref 1000300 :: S) g I P := by
  obtain ⟨r, g', I', kR, hp⟩ := kR
  exact ⟨r, g', I', fun X cX => (cX.2.2.2.2.2.2.2.2.2.1).2.2.2.2.2.1 d μ pc L S (mk g I) r (mk g' I') x hf hin (kR X cX), hp⟩
theorem R_sclen  (hf : Fe μ pc .arraylength 1) (kR : R d μ (pc + 1) L (.int (Int32.ofNat g.1.2.1) :: S) g I P) : R d μ pc L (.ref 1000300 :: S) g I P := by
  obtain ⟨r, g', I', kR, hp⟩ := kR
  exact ⟨r, g', I', fun X cX => (cX.2.2.2.2.2.2.2.2.2.1).2.2.2.2.2.2.1 d μ pc L S (mk g I) r (mk g' I')  hf  (kR X cX), hp⟩
theorem R_acopy {idx i j n0 n1 : Nat} {sp dp n : Int32} (hf : Fe μ pc (.invokestatic idx) 3) (hl : Cond.methodLink μ.1.cls idx arraycopyName ∈ GW) (hd : 0 < d) (hS : (S.map fun v => v.category).sum ≤ 8) (ha : isAg g i 100 n0) (hb : isAg g j 100 n1) (h1 : ¬ sp < 0) (h2 : ¬ dp < 0) (h3 : ¬ n < 0) (h4 : sp.toNatClampNeg + n.toNatClampNeg ≤ n0) (h5 : dp.toNatClampNeg + n.toNatClampNeg ≤ n1) (kR : R d μ (pc + 3) L S g (va_up I j (va_cpy (I i) (I j) sp.toNatClampNeg dp.toNatClampNeg n.toNatClampNeg)) P) : R d μ pc L (.int n :: .int dp :: .ref j :: .int sp :: .ref i :: S) g I P := by
  obtain ⟨r, g', I', kR, hp⟩ := kR
  exact ⟨r, g', I', fun X cX => (cX.2.2.2.2.2.2.2.2.2.1).2.2.2.2.2.2.2.1 d μ pc L S (mk g I) r (mk g' I') idx i j n0 n1 sp dp n hf hl hd hS ha hb h1 h2 h3 h4 h5 (kR X cX), hp⟩
theorem R_objInit {idx i : Nat} (hf : Fe μ pc (.invokespecial idx) 3) (hl : Cond.methodLink μ.1.cls idx objectInit ∈ GW) (hd : 0 < d) (hS : (S.map fun v => v.category).sum ≤ 8) (kR : R d μ (pc + 3) L S g I P) : R d μ pc L (.ref i :: S) g I P := by
  obtain ⟨r, g', I', kR, hp⟩ := kR
  exact ⟨r, g', I', fun X cX => (cX.2.2.2.2.2.2.2.2.2.1).2.2.2.2.2.2.2.2.1 d μ pc L S (mk g I) r (mk g' I') idx i hf hl hd hS (kR X cX), hp⟩
theorem R_mmax {idx : Nat} {x y : Int32} (hf : Fe μ pc (.invokestatic idx) 3) (hl : Cond.methodLink μ.1.cls idx Lib.Math.max.name ∈ GW) (hd : 0 < d) (hS : (S.map fun v => v.category).sum ≤ 8) (kR : R d μ (pc + 3) L (.int (jmax x y) :: S) g I P) : R d μ pc L (.int y :: .int x :: S) g I P := by
  obtain ⟨r, g', I', kR, hp⟩ := kR
  exact ⟨r, g', I', fun X cX => (cX.2.2.2.2.2.2.2.2.2.1).2.2.2.2.2.2.2.2.2 d μ pc L S (mk g I) r (mk g' I') idx x y hf hl hd hS (kR X cX), hp⟩
theorem R_mmin {idx : Nat} {x y : Int32} (hf : Fe μ pc (.invokestatic idx) 3) (hl : Cond.methodLink μ.1.cls idx Lib.Math.min.name ∈ GW) (hd : 0 < d) (hS : (S.map fun v => v.category).sum ≤ 8) (kR : R d μ (pc + 3) L (.int (jmin x y) :: S) g I P) : R d μ pc L (.int y :: .int x :: S) g I P := by
  obtain ⟨r, g', I', kR, hp⟩ := kR
  exact ⟨r, g', I', fun X cX => (cX.2.2.2.2.2.2.2.2.2.2.1).1 d μ pc L S (mk g I) r (mk g' I') idx x y hf hl hd hS (kR X cX), hp⟩
theorem R_mabs {idx : Nat} {x : Int32} (hf : Fe μ pc (.invokestatic idx) 3) (hl : Cond.methodLink μ.1.cls idx Lib.Math.abs.name ∈ GW) (hd : 0 < d) (hS : (S.map fun v => v.category).sum ≤ 8) (kR : R d μ (pc + 3) L (.int (jabs x) :: S) g I P) : R d μ pc L (.int x :: S) g I P := by
  obtain ⟨r, g', I', kR, hp⟩ := kR
  exact ⟨r, g', I', fun X cX => (cX.2.2.2.2.2.2.2.2.2.2.1).2.1 d μ pc L S (mk g I) r (mk g' I') idx x hf hl hd hS (kR X cX), hp⟩
theorem R_cS {idx : Nat} {ν : Mth} {As : List Value} {d1 : Nat} {St : List Value} (hf : Fe μ pc (.invokestatic idx) 3) (hd : d1 < d) (hS : (S.map fun v => v.category).sum ≤ 8) (hA : okA As ν.2.2.1 = true) (ho : MOk ν As.length) (hl : MLs μ.1.cls idx ν) (hs : St = (As.reverse ++ S)) (k : C d1 ν As g I (fun r1 g1 I1 => R d μ (pc + 3) L (psh r1 S) g1 I1 P)) : R d μ pc L St g I P := by
  subst hs
  obtain ⟨r1, g1, I1, k1, r, g', I', k, hp⟩ := k
  exact ⟨r, g', I', fun X cX => (cX.2.2.2.2.2.2.2.2.2.2.1).2.2.1 d μ pc L S (mk g I) r (mk g' I') idx ν As d1 r1 (mk g1 I1) hf hd hS hA ho hl (k1 X cX) (k X cX), hp⟩
theorem R_cN {idx : Nat} {ν : Mth} {As : List Value} {d1 : Nat} {St : List Value} (hf : Fe μ pc (.invokestatic idx) 3) (hd : d1 < d) (hS : (S.map fun v => v.category).sum ≤ 8) (hA : okA As ν.2.2.1 = true) (ho : MOk ν As.length) (hl : MLn μ.1.cls idx ν) (hs : St = (As.reverse ++ S)) (k : C d1 ν As g I (fun r1 g1 I1 => R d μ (pc + 3) L (psh r1 S) g1 I1 P)) : R d μ pc L St g I P := by
  subst hs
  obtain ⟨r1, g1, I1, k1, r, g', I', k, hp⟩ := k
  exact ⟨r, g', I', fun X cX => (cX.2.2.2.2.2.2.2.2.2.2.1).2.2.2.1 d μ pc L S (mk g I) r (mk g' I') idx ν As d1 r1 (mk g1 I1) hf hd hS hA ho hl (k1 X cX) (k X cX), hp⟩
theorem R_cV {idx i ci n : Nat} {Cn : String} {ν : Mth} {As : List Value} {d1 : Nat} {St : List Value} (hf : Fe μ pc (.invokevirtual idx) 3) (hd : d1 < d) (hS : (S.map fun v => v.category).sum ≤ 8) (hA : okA (.ref i :: As) ν.2.2.1 = true) (ho : MOk ν As.length) (hl : MLv μ.1.cls idx Cn ν) (hC : (vwCl[ci]?).map (·.1) = some Cn) (ha : isAg g i ci n) (hs : St = (As.reverse ++ .ref i :: S)) (k : C d1 ν (.ref i :: As) g I (fun r1 g1 I1 => R d μ (pc + 3) L (psh r1 S) g1 I1 P)) : R d μ pc L St g I P := by
  subst hs
  obtain ⟨r1, g1, I1, k1, r, g', I', k, hp⟩ := k
  exact ⟨r, g', I', fun X cX => (cX.2.2.2.2.2.2.2.2.2.2.1).2.2.2.2.1 d μ pc L S (mk g I) r (mk g' I') idx i ci n Cn ν As d1 r1 (mk g1 I1) hf hd hS hA ho hl hC ha (k1 X cX) (k X cX), hp⟩
theorem R_cT {idx j : Nat} {ν : Mth} {As : List Value} {d1 : Nat} {St : List Value} (hf : Fe μ pc (.invokevirtual idx) 3) (hd : d1 < d) (hS : (S.map fun v => v.category).sum ≤ 8) (hA : okA (.ref (1000000 + j) :: As) ν.2.2.1 = true) (ho : MOk ν As.length) (hl : MLv μ.1.cls idx "java/lang/String" ν) (hj : j < 14) (hs : St = (As.reverse ++ .ref (1000000 + j) :: S)) (k : C d1 ν (.ref (1000000 + j) :: As) g I (fun r1 g1 I1 => R d μ (pc + 3) L (psh r1 S) g1 I1 P)) : R d μ pc L St g I P := by
  subst hs
  obtain ⟨r1, g1, I1, k1, r, g', I', k, hp⟩ := k
  exact ⟨r, g', I', fun X cX => (cX.2.2.2.2.2.2.2.2.2.2.1).2.2.2.2.2.1 d μ pc L S (mk g I) r (mk g' I') idx j ν As d1 r1 (mk g1 I1) hf hd hS hA ho hl hj (k1 X cX) (k X cX), hp⟩
theorem R_cI {idx i : Nat} {ν : Mth} {As : List Value} {d1 : Nat} {St : List Value} (hf : Fe μ pc (.invokespecial idx) 3) (hd : d1 < d) (hS : (S.map fun v => v.category).sum ≤ 8) (hA : okA (.ref i :: As) ν.2.2.1 = true) (ho : MOk ν As.length) (hl : MLi μ.1.cls idx ν) (hs : St = (As.reverse ++ .ref i :: S)) (k : C d1 ν (.ref i :: As) g I (fun r1 g1 I1 => R d μ (pc + 3) L (psh r1 S) g1 I1 P)) : R d μ pc L St g I P := by
  subst hs
  obtain ⟨r1, g1, I1, k1, r, g', I', k, hp⟩ := k
  exact ⟨r, g', I', fun X cX => (cX.2.2.2.2.2.2.2.2.2.2.1).2.2.2.2.2.2.1 d μ pc L S (mk g I) r (mk g' I') idx i ν As d1 r1 (mk g1 I1) hf hd hS hA ho hl (k1 X cX) (k X cX), hp⟩
theorem R_cJ {idx i : Nat} {ν : Mth} {As : List Value} {d1 : Nat} {St : List Value} (hf : Fe μ pc (.invokespecial idx) 3) (hd : d1 < d) (hS : (S.map fun v => v.category).sum ≤ 8) (hA : okA (.ref i :: As) ν.2.2.1 = true) (ho : MOk ν As.length) (hl : MLj μ.1.cls idx ν) (hs : St = (As.reverse ++ .ref i :: S)) (k : C d1 ν (.ref i :: As) g I (fun r1 g1 I1 => R d μ (pc + 3) L (psh r1 S) g1 I1 P)) : R d μ pc L St g I P := by
  subst hs
  obtain ⟨r1, g1, I1, k1, r, g', I', k, hp⟩ := k
  exact ⟨r, g', I', fun X cX => (cX.2.2.2.2.2.2.2.2.2.2.1).2.2.2.2.2.2.2.1 d μ pc L S (mk g I) r (mk g' I') idx i ν As d1 r1 (mk g1 I1) hf hd hS hA ho hl (k1 X cX) (k X cX), hp⟩
theorem R_retI {v : Int32} {ty : FieldType} (hf : Fe μ pc .ireturn 1) (hr : μ.2.2.2 = some ty) (hn : narrow ty (.int v) = .int v) (k : P (some (.int v)) g I) : R d μ pc L [.int v] g I P := ⟨_, g, I, fun X cX => (cX.2.2.2.2.2.2.2.2.2.2.1).2.2.2.2.2.2.2.2.1 d μ pc L (mk g I) v ty hf hr hn, k⟩
theorem R_retA {i : Nat} {ty : FieldType} (hf : Fe μ pc .areturn 1) (hr : μ.2.2.2 = some ty) (ht : tyR ty) (k : P (some (.ref i)) g I) : R d μ pc L [.ref i] g I P := ⟨_, g, I, fun X cX => (cX.2.2.2.2.2.2.2.2.2.2.1).2.2.2.2.2.2.2.2.2 d μ pc L (mk g I) i ty hf hr ht, k⟩
theorem R_retN {ty : FieldType} (hf : Fe μ pc .areturn 1) (hr : μ.2.2.2 = some ty) (ht : tyR ty) (k : P (some .null) g I) : R d μ pc L [.null] g I P := ⟨_, g, I, fun X cX => (cX.2.2.2.2.2.2.2.2.2.2.2).1 d μ pc L (mk g I) ty hf hr ht, k⟩
theorem R_retV  (hf : Fe μ pc .return_ 1) (hr : μ.2.2.2 = none) (k : P none g I) : R d μ pc L [] g I P := ⟨_, g, I, fun X cX => (cX.2.2.2.2.2.2.2.2.2.2.2).2 d μ pc L (mk g I)  hf hr, k⟩
theorem R_if_eq {x : Int32} {off : Int} {tgt : Nat} (hf : Fe μ pc (.ifCond .eq off) 3) (ht : (pc : Int) + off = (tgt : Int)) (kt : x = 0 → R d μ tgt L S g I P) (kf : ¬ (x = 0) → R d μ (pc + 3) L S g I P) : R d μ pc L (.int x :: S) g I P := by
  by_cases hc : x = 0
  · exact R_if_eq_t hf ht hc (kt hc)
  · exact R_if_eq_f hf ht hc (kf hc)
theorem R_if_ne {x : Int32} {off : Int} {tgt : Nat} (hf : Fe μ pc (.ifCond .ne off) 3) (ht : (pc : Int) + off = (tgt : Int)) (kt : ¬ x = 0 → R d μ tgt L S g I P) (kf : ¬ (¬ x = 0) → R d μ (pc + 3) L S g I P) : R d μ pc L (.int x :: S) g I P := by
  by_cases hc : ¬ x = 0
  · exact R_if_ne_t hf ht hc (kt hc)
  · exact R_if_ne_f hf ht hc (kf hc)
theorem R_if_lt {x : Int32} {off : Int} {tgt : Nat} (hf : Fe μ pc (.ifCond .lt off) 3) (ht : (pc : Int) + off = (tgt : Int)) (kt : x < 0 → R d μ tgt L S g I P) (kf : ¬ (x < 0) → R d μ (pc + 3) L S g I P) : R d μ pc L (.int x :: S) g I P := by
  by_cases hc : x < 0
  · exact R_if_lt_t hf ht hc (kt hc)
  · exact R_if_lt_f hf ht hc (kf hc)
theorem R_if_ge {x : Int32} {off : Int} {tgt : Nat} (hf : Fe μ pc (.ifCond .ge off) 3) (ht : (pc : Int) + off = (tgt : Int)) (kt : 0 ≤ x → R d μ tgt L S g I P) (kf : ¬ (0 ≤ x) → R d μ (pc + 3) L S g I P) : R d μ pc L (.int x :: S) g I P := by
  by_cases hc : 0 ≤ x
  · exact R_if_ge_t hf ht hc (kt hc)
  · exact R_if_ge_f hf ht hc (kf hc)
theorem R_if_gt {x : Int32} {off : Int} {tgt : Nat} (hf : Fe μ pc (.ifCond .gt off) 3) (ht : (pc : Int) + off = (tgt : Int)) (kt : 0 < x → R d μ tgt L S g I P) (kf : ¬ (0 < x) → R d μ (pc + 3) L S g I P) : R d μ pc L (.int x :: S) g I P := by
  by_cases hc : 0 < x
  · exact R_if_gt_t hf ht hc (kt hc)
  · exact R_if_gt_f hf ht hc (kf hc)
theorem R_if_le {x : Int32} {off : Int} {tgt : Nat} (hf : Fe μ pc (.ifCond .le off) 3) (ht : (pc : Int) + off = (tgt : Int)) (kt : x ≤ 0 → R d μ tgt L S g I P) (kf : ¬ (x ≤ 0) → R d μ (pc + 3) L S g I P) : R d μ pc L (.int x :: S) g I P := by
  by_cases hc : x ≤ 0
  · exact R_if_le_t hf ht hc (kt hc)
  · exact R_if_le_f hf ht hc (kf hc)
theorem R_icmp_eq {x y : Int32} {off : Int} {tgt : Nat} (hf : Fe μ pc (.if_icmp .eq off) 3) (ht : (pc : Int) + off = (tgt : Int)) (kt : x = y → R d μ tgt L S g I P) (kf : ¬ (x = y) → R d μ (pc + 3) L S g I P) : R d μ pc L (.int y :: .int x :: S) g I P := by
  by_cases hc : x = y
  · exact R_icmp_eq_t hf ht hc (kt hc)
  · exact R_icmp_eq_f hf ht hc (kf hc)
theorem R_icmp_ne {x y : Int32} {off : Int} {tgt : Nat} (hf : Fe μ pc (.if_icmp .ne off) 3) (ht : (pc : Int) + off = (tgt : Int)) (kt : ¬ x = y → R d μ tgt L S g I P) (kf : ¬ (¬ x = y) → R d μ (pc + 3) L S g I P) : R d μ pc L (.int y :: .int x :: S) g I P := by
  by_cases hc : ¬ x = y
  · exact R_icmp_ne_t hf ht hc (kt hc)
  · exact R_icmp_ne_f hf ht hc (kf hc)
theorem R_icmp_lt {x y : Int32} {off : Int} {tgt : Nat} (hf : Fe μ pc (.if_icmp .lt off) 3) (ht : (pc : Int) + off = (tgt : Int)) (kt : x < y → R d μ tgt L S g I P) (kf : ¬ (x < y) → R d μ (pc + 3) L S g I P) : R d μ pc L (.int y :: .int x :: S) g I P := by
  by_cases hc : x < y
  · exact R_icmp_lt_t hf ht hc (kt hc)
  · exact R_icmp_lt_f hf ht hc (kf hc)
theorem R_icmp_ge {x y : Int32} {off : Int} {tgt : Nat} (hf : Fe μ pc (.if_icmp .ge off) 3) (ht : (pc : Int) + off = (tgt : Int)) (kt : y ≤ x → R d μ tgt L S g I P) (kf : ¬ (y ≤ x) → R d μ (pc + 3) L S g I P) : R d μ pc L (.int y :: .int x :: S) g I P := by
  by_cases hc : y ≤ x
  · exact R_icmp_ge_t hf ht hc (kt hc)
  · exact R_icmp_ge_f hf ht hc (kf hc)
theorem R_icmp_gt {x y : Int32} {off : Int} {tgt : Nat} (hf : Fe μ pc (.if_icmp .gt off) 3) (ht : (pc : Int) + off = (tgt : Int)) (kt : y < x → R d μ tgt L S g I P) (kf : ¬ (y < x) → R d μ (pc + 3) L S g I P) : R d μ pc L (.int y :: .int x :: S) g I P := by
  by_cases hc : y < x
  · exact R_icmp_gt_t hf ht hc (kt hc)
  · exact R_icmp_gt_f hf ht hc (kf hc)
theorem R_icmp_le {x y : Int32} {off : Int} {tgt : Nat} (hf : Fe μ pc (.if_icmp .le off) 3) (ht : (pc : Int) + off = (tgt : Int)) (kt : x ≤ y → R d μ tgt L S g I P) (kf : ¬ (x ≤ y) → R d μ (pc + 3) L S g I P) : R d μ pc L (.int y :: .int x :: S) g I P := by
  by_cases hc : x ≤ y
  · exact R_icmp_le_t hf ht hc (kt hc)
  · exact R_icmp_le_f hf ht hc (kf hc)
theorem R_mono {P' : Option Value → Geo → IM → Prop} (k : R d μ pc L S g I P) (hP : ∀ r g' I', P r g' I' → P' r g' I') : R d μ pc L S g I P' := by
  obtain ⟨r, g', I', k, hp⟩ := k
  exact ⟨r, g', I', k, hP _ _ _ hp⟩
theorem C_mono {ν : Mth} {As : List Value} {P' : Option Value → Geo → IM → Prop} (k : C d ν As g I P) (hP : ∀ r g' I', P r g' I' → P' r g' I') : C d ν As g I P' := R_mono k hP
end RR
