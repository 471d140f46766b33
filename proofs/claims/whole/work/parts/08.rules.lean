/-- R, locked (a definition by well-founded recursion is not unfolded by the unifier) -/
def Rl (d : Nat) (μ : Mth) (pc : Nat) (L : Lcl) (S : List Value) (g : Geo) (I : IM) (P : Option Value → Geo → IM → Prop) : Prop := if d = d + 1 then Rl (d - 1) μ pc L S g I P else R d μ pc L S g I P
termination_by d
decreasing_by omega
theorem Rl_iff {d : Nat} {μ : Mth} {pc : Nat} {L : Lcl} {S : List Value} {g : Geo} {I : IM} {P : Option Value → Geo → IM → Prop} : Rl d μ pc L S g I P ↔ R d μ pc L S g I P := by
  rw [Rl, if_neg (by omega)]
def Cl (d : Nat) (ν : Mth) (As : List Value) (g : Geo) (I : IM) (K : Option Value → Geo → IM → Prop) : Prop := Rl d ν 0 (ent As ν.2.2.1) [] g I K
theorem Cl_C {d : Nat} {ν : Mth} {As : List Value} {g : Geo} {I : IM} {d2 : Nat} {μ : Mth} {pc : Nat} {L : Lcl} {S : List Value} {P : Option Value → Geo → IM → Prop} (k : Cl d ν As g I (fun r1 g1 I1 => Rl d2 μ pc L (psh r1 S) g1 I1 P)) : C d ν As g I (fun r1 g1 I1 => R d2 μ pc L (psh r1 S) g1 I1 P) := by
  unfold Cl at k
  rw [Rl_iff] at k
  exact R_mono k (fun _ _ _ h => Rl_iff.mp h)
section TR
variable {d : Nat} {μ : Mth} {pc pc1 : Nat} {L : Lcl} {S : List Value} {g : Geo} {I : IM} {P : Option Value → Geo → IM → Prop}
theorem T_iconst {n : Int} {v : Int32} (hf : Fe μ pc (.iconst n) 1) (hq : pc + 1 = pc1) (hv : Int32.ofInt n = v) (kR : Rl d μ pc1 L (.int v :: S) g I P) : Rl d μ pc L S g I P := by
  subst hq
  exact Rl_iff.mpr (R_iconst hf hv (Rl_iff.mp kR))
theorem T_bipush {n : Int} {v : Int32} (hf : Fe μ pc (.bipush n) 2) (hq : pc + 2 = pc1) (hv : (Int8.ofInt n).toInt32 = v) (kR : Rl d μ pc1 L (.int v :: S) g I P) : Rl d μ pc L S g I P := by
  subst hq
  exact Rl_iff.mpr (R_bipush hf hv (Rl_iff.mp kR))
theorem T_sipush {n : Int} {v : Int32} (hf : Fe μ pc (.sipush n) 3) (hq : pc + 3 = pc1) (hv : (Int16.ofInt n).toInt32 = v) (kR : Rl d μ pc1 L (.int v :: S) g I P) : Rl d μ pc L S g I P := by
  subst hq
  exact Rl_iff.mpr (R_sipush hf hv (Rl_iff.mp kR))
theorem T_ldc {idx : Nat} {v : Int32} (hf : Fe μ pc (.ldc idx) 2) (hq : pc + 2 = pc1) (hv : Cond.constant μ.1.cls idx v ∈ GW) (kR : Rl d μ pc1 L (.int v :: S) g I P) : Rl d μ pc L S g I P := by
  subst hq
  exact Rl_iff.mpr (R_ldc hf hv (Rl_iff.mp kR))
theorem T_ldcw {idx : Nat} {v : Int32} (hf : Fe μ pc (.ldc_w idx) 3) (hq : pc + 3 = pc1) (hv : Cond.constant μ.1.cls idx v ∈ GW) (kR : Rl d μ pc1 L (.int v :: S) g I P) : Rl d μ pc L S g I P := by
  subst hq
  exact Rl_iff.mpr (R_ldcw hf hv (Rl_iff.mp kR))
theorem T_null  (hf : Fe μ pc .aconst_null 1) (hq : pc + 1 = pc1) (kR : Rl d μ pc1 L (.null :: S) g I P) : Rl d μ pc L S g I P := by
  subst hq
  exact Rl_iff.mpr (R_null hf  (Rl_iff.mp kR))
theorem T_ldcS {idx : Nat} {tx : String} {j : Nat} (hf : Fe μ pc (.ldc idx) 2) (hq : pc + 2 = pc1) (hv : (μ.1.cls, idx, tx, j) ∈ strW) (kR : Rl d μ pc1 L (.ref (1000000 + j) :: S) g I P) : Rl d μ pc L S g I P := by
  subst hq
  exact Rl_iff.mpr (R_ldcS hf hv (Rl_iff.mp kR))
theorem T_iload_n {i : Fin 4} {x : Int32} (hf : Fe μ pc (.iload_n i) 1) (hq : pc + 1 = pc1) (hl : L[(i : Nat)]? = some (some (.int x))) (kR : Rl d μ pc1 L (.int x :: S) g I P) : Rl d μ pc L S g I P := by
  subst hq
  exact Rl_iff.mpr (R_iload_n hf hl (Rl_iff.mp kR))
theorem T_iload {i : Nat} {x : Int32} (hf : Fe μ pc (.iload i) 2) (hq : pc + 2 = pc1) (hl : L[i]? = some (some (.int x))) (kR : Rl d μ pc1 L (.int x :: S) g I P) : Rl d μ pc L S g I P := by
  subst hq
  exact Rl_iff.mpr (R_iload hf hl (Rl_iff.mp kR))
theorem T_aload_n {i : Fin 4} {x : Nat} (hf : Fe μ pc (.aload_n i) 1) (hq : pc + 1 = pc1) (hl : L[(i : Nat)]? = some (some (.ref x))) (kR : Rl d μ pc1 L (.ref x :: S) g I P) : Rl d μ pc L S g I P := by
  subst hq
  exact Rl_iff.mpr (R_aload_n hf hl (Rl_iff.mp kR))
theorem T_aload {i : Nat} {x : Nat} (hf : Fe μ pc (.aload i) 2) (hq : pc + 2 = pc1) (hl : L[i]? = some (some (.ref x))) (kR : Rl d μ pc1 L (.ref x :: S) g I P) : Rl d μ pc L S g I P := by
  subst hq
  exact Rl_iff.mpr (R_aload hf hl (Rl_iff.mp kR))
theorem T_aload_nN {i : Fin 4} (hf : Fe μ pc (.aload_n i) 1) (hq : pc + 1 = pc1) (hl : L[(i : Nat)]? = some (some .null)) (kR : Rl d μ pc1 L (.null :: S) g I P) : Rl d μ pc L S g I P := by
  subst hq
  exact Rl_iff.mpr (R_aload_nN hf hl (Rl_iff.mp kR))
theorem T_aloadN {i : Nat} (hf : Fe μ pc (.aload i) 2) (hq : pc + 2 = pc1) (hl : L[i]? = some (some .null)) (kR : Rl d μ pc1 L (.null :: S) g I P) : Rl d μ pc L S g I P := by
  subst hq
  exact Rl_iff.mpr (R_aloadN hf hl (Rl_iff.mp kR))
theorem T_istore_n {i : Fin 4} {x : Int32} (hf : Fe μ pc (.istore_n i) 1) (hq : pc + 1 = pc1) (hi : (i : Nat) < L.length) (kR : Rl d μ pc1 (L.set (i : Nat) (some (.int x))) S g I P) : Rl d μ pc L ((.int x) :: S) g I P := by
  subst hq
  exact Rl_iff.mpr (R_istore_n hf hi (Rl_iff.mp kR))
theorem T_istore {i : Nat} {x : Int32} (hf : Fe μ pc (.istore i) 2) (hq : pc + 2 = pc1) (hi : i < L.length) (kR : Rl d μ pc1 (L.set i (some (.int x))) S g I P) : Rl d μ pc L ((.int x) :: S) g I P := by
  subst hq
  exact Rl_iff.mpr (R_istore hf hi (Rl_iff.mp kR))
theorem T_astore_n {i : Fin 4} {x : Nat} (hf : Fe μ pc (.astore_n i) 1) (hq : pc + 1 = pc1) (hi : (i : Nat) < L.length) (kR : Rl d μ pc1 (L.set (i : Nat) (some (.ref x))) S g I P) : Rl d μ pc L ((.ref x) :: S) g I P := by
  subst hq
  exact Rl_iff.mpr (R_astore_n hf hi (Rl_iff.mp kR))
theorem T_astore {i : Nat} {x : Nat} (hf : Fe μ pc (.astore i) 2) (hq : pc + 2 = pc1) (hi : i < L.length) (kR : Rl d μ pc1 (L.set i (some (.ref x))) S g I P) : Rl d μ pc L ((.ref x) :: S) g I P := by
  subst hq
  exact Rl_iff.mpr (R_astore hf hi (Rl_iff.mp kR))
theorem T_astore_nN {i : Fin 4} (hf : Fe μ pc (.astore_n i) 1) (hq : pc + 1 = pc1) (hi : (i : Nat) < L.length) (kR : Rl d μ pc1 (L.set (i : Nat) (some .null)) S g I P) : Rl d μ pc L (.null :: S) g I P := by
  subst hq
  exact Rl_iff.mpr (R_astore_nN hf hi (Rl_iff.mp kR))
theorem T_astoreN {i : Nat} (hf : Fe μ pc (.astore i) 2) (hq : pc + 2 = pc1) (hi : i < L.length) (kR : Rl d μ pc1 (L.set i (some .null)) S g I P) : Rl d μ pc L (.null :: S) g I P := by
  subst hq
  exact Rl_iff.mpr (R_astoreN hf hi (Rl_iff.mp kR))
theorem T_iinc {i : Nat} {n : Int} {x v : Int32} (hf : Fe μ pc (.iinc i n) 3) (hq : pc + 3 = pc1) (hl : L[i]? = some (some (.int x))) (hv : Int32.ofInt n = v) (kR : Rl d μ pc1 (L.set i (some (.int (x + v)))) S g I P) : Rl d μ pc L S g I P := by
  subst hq
  exact Rl_iff.mpr (R_iinc hf hl hv (Rl_iff.mp kR))
theorem T_iadd {x y : Int32} (hf : Fe μ pc .iadd 1) (hq : pc + 1 = pc1) (kR : Rl d μ pc1 L (.int (x + y) :: S) g I P) : Rl d μ pc L (.int y :: .int x :: S) g I P := by
  subst hq
  exact Rl_iff.mpr (R_iadd hf  (Rl_iff.mp kR))
theorem T_isub {x y : Int32} (hf : Fe μ pc .isub 1) (hq : pc + 1 = pc1) (kR : Rl d μ pc1 L (.int (x - y) :: S) g I P) : Rl d μ pc L (.int y :: .int x :: S) g I P := by
  subst hq
  exact Rl_iff.mpr (R_isub hf  (Rl_iff.mp kR))
theorem T_imul {x y : Int32} (hf : Fe μ pc .imul 1) (hq : pc + 1 = pc1) (kR : Rl d μ pc1 L (.int (x * y) :: S) g I P) : Rl d μ pc L (.int y :: .int x :: S) g I P := by
  subst hq
  exact Rl_iff.mpr (R_imul hf  (Rl_iff.mp kR))
theorem T_iand {x y : Int32} (hf : Fe μ pc .iand 1) (hq : pc + 1 = pc1) (kR : Rl d μ pc1 L (.int (x &&& y) :: S) g I P) : Rl d μ pc L (.int y :: .int x :: S) g I P := by
  subst hq
  exact Rl_iff.mpr (R_iand hf  (Rl_iff.mp kR))
theorem T_ior {x y : Int32} (hf : Fe μ pc .ior 1) (hq : pc + 1 = pc1) (kR : Rl d μ pc1 L (.int (x ||| y) :: S) g I P) : Rl d μ pc L (.int y :: .int x :: S) g I P := by
  subst hq
  exact Rl_iff.mpr (R_ior hf  (Rl_iff.mp kR))
theorem T_ishl {x y : Int32} (hf : Fe μ pc .ishl 1) (hq : pc + 1 = pc1) (kR : Rl d μ pc1 L (.int (x <<< (y &&& 31)) :: S) g I P) : Rl d μ pc L (.int y :: .int x :: S) g I P := by
  subst hq
  exact Rl_iff.mpr (R_ishl hf  (Rl_iff.mp kR))
theorem T_ishr {x y : Int32} (hf : Fe μ pc .ishr 1) (hq : pc + 1 = pc1) (kR : Rl d μ pc1 L (.int (x >>> (y &&& 31)) :: S) g I P) : Rl d μ pc L (.int y :: .int x :: S) g I P := by
  subst hq
  exact Rl_iff.mpr (R_ishr hf  (Rl_iff.mp kR))
theorem T_idiv {x y : Int32} (hf : Fe μ pc .idiv 1) (hq : pc + 1 = pc1) (hne : ¬ y = 0) (kR : Rl d μ pc1 L (.int (x / y) :: S) g I P) : Rl d μ pc L (.int y :: .int x :: S) g I P := by
  subst hq
  exact Rl_iff.mpr (R_idiv hf hne (Rl_iff.mp kR))
theorem T_irem {x y : Int32} (hf : Fe μ pc .irem 1) (hq : pc + 1 = pc1) (hne : ¬ y = 0) (kR : Rl d μ pc1 L (.int (x - x / y * y) :: S) g I P) : Rl d μ pc L (.int y :: .int x :: S) g I P := by
  subst hq
  exact Rl_iff.mpr (R_irem hf hne (Rl_iff.mp kR))
theorem T_ineg {x : Int32} (hf : Fe μ pc .ineg 1) (hq : pc + 1 = pc1) (kR : Rl d μ pc1 L (.int (-x) :: S) g I P) : Rl d μ pc L (.int x :: S) g I P := by
  subst hq
  exact Rl_iff.mpr (R_ineg hf  (Rl_iff.mp kR))
theorem T_iushr {x y : Int32} (hf : Fe μ pc .iushr 1) (hq : pc + 1 = pc1) (kR : Rl d μ pc1 L (.int (x.toUInt32 >>> (y.toUInt32 &&& Int32.toUInt32 31)).toInt32 :: S) g I P) : Rl d μ pc L (.int y :: .int x :: S) g I P := by
  subst hq
  exact Rl_iff.mpr (R_iushr hf  (Rl_iff.mp kR))
theorem T_i2l {x : Int32} (hf : Fe μ pc .i2l 1) (hq : pc + 1 = pc1) (kR : Rl d μ pc1 L (.long x.toInt64 :: S) g I P) : Rl d μ pc L (.int x :: S) g I P := by
  subst hq
  exact Rl_iff.mpr (R_i2l hf  (Rl_iff.mp kR))
theorem T_ladd {x y : Int64} (hf : Fe μ pc .ladd 1) (hq : pc + 1 = pc1) (kR : Rl d μ pc1 L (.long (x + y) :: S) g I P) : Rl d μ pc L (.long y :: .long x :: S) g I P := by
  subst hq
  exact Rl_iff.mpr (R_ladd hf  (Rl_iff.mp kR))
theorem T_lcmp {x y : Int64} (hf : Fe μ pc .lcmp 1) (hq : pc + 1 = pc1) (kR : Rl d μ pc1 L (.int (lg_cmp x y) :: S) g I P) : Rl d μ pc L (.long y :: .long x :: S) g I P := by
  subst hq
  exact Rl_iff.mpr (R_lcmp hf  (Rl_iff.mp kR))
theorem T_i2b {x : Int32} (hf : Fe μ pc .i2b 1) (hq : pc + 1 = pc1) (kR : Rl d μ pc1 L (.int x.toInt8.toInt32 :: S) g I P) : Rl d μ pc L (.int x :: S) g I P := by
  subst hq
  exact Rl_iff.mpr (R_i2b hf  (Rl_iff.mp kR))
theorem T_i2s {x : Int32} (hf : Fe μ pc .i2s 1) (hq : pc + 1 = pc1) (kR : Rl d μ pc1 L (.int x.toInt16.toInt32 :: S) g I P) : Rl d μ pc L (.int x :: S) g I P := by
  subst hq
  exact Rl_iff.mpr (R_i2s hf  (Rl_iff.mp kR))
theorem T_i2c {x : Int32} (hf : Fe μ pc .i2c 1) (hq : pc + 1 = pc1) (kR : Rl d μ pc1 L (.int (x.toUInt32 % 65536).toInt32 :: S) g I P) : Rl d μ pc L (.int x :: S) g I P := by
  subst hq
  exact Rl_iff.mpr (R_i2c hf  (Rl_iff.mp kR))
theorem T_dup {v : Value} (hf : Fe μ pc .dup 1) (hq : pc + 1 = pc1) (hv : v.category = 1) (kR : Rl d μ pc1 L (v :: v :: S) g I P) : Rl d μ pc L (v :: S) g I P := by
  subst hq
  exact Rl_iff.mpr (R_dup hf hv (Rl_iff.mp kR))
theorem T_dup2 {v w : Value} (hf : Fe μ pc .dup2 1) (hq : pc + 1 = pc1) (hv : v.category = 1) (hw : w.category = 1) (kR : Rl d μ pc1 L (v :: w :: v :: w :: S) g I P) : Rl d μ pc L (v :: w :: S) g I P := by
  subst hq
  exact Rl_iff.mpr (R_dup2 hf hv hw (Rl_iff.mp kR))
theorem T_pop {v : Value} (hf : Fe μ pc .pop 1) (hq : pc + 1 = pc1) (hv : v.category = 1) (kR : Rl d μ pc1 L S g I P) : Rl d μ pc L (v :: S) g I P := by
  subst hq
  exact Rl_iff.mpr (R_pop hf hv (Rl_iff.mp kR))
theorem T_goto {off : Int} {tgt : Nat} (hf : Fe μ pc (.goto off) 3) (ht : (pc : Int) + off = (tgt : Int)) (kR : Rl d μ tgt L S g I P) : Rl d μ pc L S g I P := Rl_iff.mpr (R_goto hf ht (Rl_iff.mp kR))
theorem T_if_eq_t {x : Int32} {off : Int} {tgt : Nat} (hf : Fe μ pc (.ifCond .eq off) 3) (ht : (pc : Int) + off = (tgt : Int)) (hc : x = 0) (kR : Rl d μ tgt L S g I P) : Rl d μ pc L (.int x :: S) g I P := Rl_iff.mpr (R_if_eq_t hf ht hc (Rl_iff.mp kR))
theorem T_if_eq_f {x : Int32} {off : Int} {tgt : Nat} (hf : Fe μ pc (.ifCond .eq off) 3) (hq : pc + 3 = pc1) (ht : (pc : Int) + off = (tgt : Int)) (hc : ¬ (x = 0)) (kR : Rl d μ pc1 L S g I P) : Rl d μ pc L (.int x :: S) g I P := by
  subst hq
  exact Rl_iff.mpr (R_if_eq_f hf ht hc (Rl_iff.mp kR))
theorem T_if_ne_t {x : Int32} {off : Int} {tgt : Nat} (hf : Fe μ pc (.ifCond .ne off) 3) (ht : (pc : Int) + off = (tgt : Int)) (hc : ¬ x = 0) (kR : Rl d μ tgt L S g I P) : Rl d μ pc L (.int x :: S) g I P := Rl_iff.mpr (R_if_ne_t hf ht hc (Rl_iff.mp kR))
theorem T_if_ne_f {x : Int32} {off : Int} {tgt : Nat} (hf : Fe μ pc (.ifCond .ne off) 3) (hq : pc + 3 = pc1) (ht : (pc : Int) + off = (tgt : Int)) (hc : ¬ (¬ x = 0)) (kR : Rl d μ pc1 L S g I P) : Rl d μ pc L (.int x :: S) g I P := by
  subst hq
  exact Rl_iff.mpr (R_if_ne_f hf ht hc (Rl_iff.mp kR))
theorem T_if_lt_t {x : Int32} {off : Int} {tgt : Nat} (hf : Fe μ pc (.ifCond .lt off) 3) (ht : (pc : Int) + off = (tgt : Int)) (hc : x < 0) (kR : Rl d μ tgt L S g I P) : Rl d μ pc L (.int x :: S) g I P := Rl_iff.mpr (R_if_lt_t hf ht hc (Rl_iff.mp kR))
theorem T_if_lt_f {x : Int32} {off : Int} {tgt : Nat} (hf : Fe μ pc (.ifCond .lt off) 3) (hq : pc + 3 = pc1) (ht : (pc : Int) + off = (tgt : Int)) (hc : ¬ (x < 0)) (kR : Rl d μ pc1 L S g I P) : Rl d μ pc L (.int x :: S) g I P := by
  subst hq
  exact Rl_iff.mpr (R_if_lt_f hf ht hc (Rl_iff.mp kR))
theorem T_if_ge_t {x : Int32} {off : Int} {tgt : Nat} (hf : Fe μ pc (.ifCond .ge off) 3) (ht : (pc : Int) + off = (tgt : Int)) (hc : 0 ≤ x) (kR : Rl d μ tgt L S g I P) : Rl d μ pc L (.int x :: S) g I P := Rl_iff.mpr (R_if_ge_t hf ht hc (Rl_iff.mp kR))
theorem T_if_ge_f {x : Int32} {off : Int} {tgt : Nat} (hf : Fe μ pc (.ifCond .ge off) 3) (hq : pc + 3 = pc1) (ht : (pc : Int) + off = (tgt : Int)) (hc : ¬ (0 ≤ x)) (kR : Rl d μ pc1 L S g I P) : Rl d μ pc L (.int x :: S) g I P := by
  subst hq
  exact Rl_iff.mpr (R_if_ge_f hf ht hc (Rl_iff.mp kR))
theorem T_if_gt_t {x : Int32} {off : Int} {tgt : Nat} (hf : Fe μ pc (.ifCond .gt off) 3) (ht : (pc : Int) + off = (tgt : Int)) (hc : 0 < x) (kR : Rl d μ tgt L S g I P) : Rl d μ pc L (.int x :: S) g I P := Rl_iff.mpr (R_if_gt_t hf ht hc (Rl_iff.mp kR))
theorem T_if_gt_f {x : Int32} {off : Int} {tgt : Nat} (hf : Fe μ pc (.ifCond .gt off) 3) (hq : pc + 3 = pc1) (ht : (pc : Int) + off = (tgt : Int)) (hc : ¬ (0 < x)) (kR : Rl d μ pc1 L S g I P) : Rl d μ pc L (.int x :: S) g I P := by
  subst hq
  exact Rl_iff.mpr (R_if_gt_f hf ht hc (Rl_iff.mp kR))
theorem T_if_le_t {x : Int32} {off : Int} {tgt : Nat} (hf : Fe μ pc (.ifCond .le off) 3) (ht : (pc : Int) + off = (tgt : Int)) (hc : x ≤ 0) (kR : Rl d μ tgt L S g I P) : Rl d μ pc L (.int x :: S) g I P := Rl_iff.mpr (R_if_le_t hf ht hc (Rl_iff.mp kR))
theorem T_if_le_f {x : Int32} {off : Int} {tgt : Nat} (hf : Fe μ pc (.ifCond .le off) 3) (hq : pc + 3 = pc1) (ht : (pc : Int) + off = (tgt : Int)) (hc : ¬ (x ≤ 0)) (kR : Rl d μ pc1 L S g I P) : Rl d μ pc L (.int x :: S) g I P := by
  subst hq
  exact Rl_iff.mpr (R_if_le_f hf ht hc (Rl_iff.mp kR))
theorem T_icmp_eq_t {x y : Int32} {off : Int} {tgt : Nat} (hf : Fe μ pc (.if_icmp .eq off) 3) (ht : (pc : Int) + off = (tgt : Int)) (hc : x = y) (kR : Rl d μ tgt L S g I P) : Rl d μ pc L (.int y :: .int x :: S) g I P := Rl_iff.mpr (R_icmp_eq_t hf ht hc (Rl_iff.mp kR))
theorem T_icmp_eq_f {x y : Int32} {off : Int} {tgt : Nat} (hf : Fe μ pc (.if_icmp .eq off) 3) (hq : pc + 3 = pc1) (ht : (pc : Int) + off = (tgt : Int)) (hc : ¬ (x = y)) (kR : Rl d μ pc1 L S g I P) : Rl d μ pc L (.int y :: .int x :: S) g I P := by
  subst hq
  exact Rl_iff.mpr (R_icmp_eq_f hf ht hc (Rl_iff.mp kR))
theorem T_icmp_ne_t {x y : Int32} {off : Int} {tgt : Nat} (hf : Fe μ pc (.if_icmp .ne off) 3) (ht : (pc : Int) + off = (tgt : Int)) (hc : ¬ x = y) (kR : Rl d μ tgt L S g I P) : Rl d μ pc L (.int y :: .int x :: S) g I P := Rl_iff.mpr (R_icmp_ne_t hf ht hc (Rl_iff.mp kR))
theorem T_icmp_ne_f {x y : Int32} {off : Int} {tgt : Nat} (hf : Fe μ pc (.if_icmp .ne off) 3) (hq : pc + 3 = pc1) (ht : (pc : Int) + off = (tgt : Int)) (hc : ¬ (¬ x = y)) (kR : Rl d μ pc1 L S g I P) : Rl d μ pc L (.int y :: .int x :: S) g I P := by
  subst hq
  exact Rl_iff.mpr (R_icmp_ne_f hf ht hc (Rl_iff.mp kR))
theorem T_icmp_lt_t {x y : Int32} {off : Int} {tgt : Nat} (hf : Fe μ pc (.if_icmp .lt off) 3) (ht : (pc : Int) + off = (tgt : Int)) (hc : x < y) (kR : Rl d μ tgt L S g I P) : Rl d μ pc L (.int y :: .int x :: S) g I P := Rl_iff.mpr (R_icmp_lt_t hf ht hc (Rl_iff.mp kR))
theorem T_icmp_lt_f {x y : Int32} {off : Int} {tgt : Nat} (hf : Fe μ pc (.if_icmp .lt off) 3) (hq : pc + 3 = pc1) (ht : (pc : Int) + off = (tgt : Int)) (hc : ¬ (x < y)) (kR : Rl d μ pc1 L S g I P) : Rl d μ pc L (.int y :: .int x :: S) g I P := by
  subst hq
  exact Rl_iff.mpr (R_icmp_lt_f hf ht hc (Rl_iff.mp kR))
theorem T_icmp_ge_t {x y : Int32} {off : Int} {tgt : Nat} (hf : Fe μ pc (.if_icmp .ge off) 3) (ht : (pc : Int) + off = (tgt : Int)) (hc : y ≤ x) (kR : Rl d μ tgt L S g I P) : Rl d μ pc L (.int y :: .int x :: S) g I P := Rl_iff.mpr (R_icmp_ge_t hf ht hc (Rl_iff.mp kR))
theorem T_icmp_ge_f {x y : Int32} {off : Int} {tgt : Nat} (hf : Fe μ pc (.if_icmp .ge off) 3) (hq : pc + 3 = pc1) (ht : (pc : Int) + off = (tgt : Int)) (hc : ¬ (y ≤ x)) (kR : Rl d μ pc1 L S g I P) : Rl d μ pc L (.int y :: .int x :: S) g I P := by
  subst hq
  exact Rl_iff.mpr (R_icmp_ge_f hf ht hc (Rl_iff.mp kR))
theorem T_icmp_gt_t {x y : Int32} {off : Int} {tgt : Nat} (hf : Fe μ pc (.if_icmp .gt off) 3) (ht : (pc : Int) + off = (tgt : Int)) (hc : y < x) (kR : Rl d μ tgt L S g I P) : Rl d μ pc L (.int y :: .int x :: S) g I P := Rl_iff.mpr (R_icmp_gt_t hf ht hc (Rl_iff.mp kR))
theorem T_icmp_gt_f {x y : Int32} {off : Int} {tgt : Nat} (hf : Fe μ pc (.if_icmp .gt off) 3) (hq : pc + 3 = pc1) (ht : (pc : Int) + off = (tgt : Int)) (hc : ¬ (y < x)) (kR : Rl d μ pc1 L S g I P) : Rl d μ pc L (.int y :: .int x :: S) g I P := by
  subst hq
  exact Rl_iff.mpr (R_icmp_gt_f hf ht hc (Rl_iff.mp kR))
theorem T_icmp_le_t {x y : Int32} {off : Int} {tgt : Nat} (hf : Fe μ pc (.if_icmp .le off) 3) (ht : (pc : Int) + off = (tgt : Int)) (hc : x ≤ y) (kR : Rl d μ tgt L S g I P) : Rl d μ pc L (.int y :: .int x :: S) g I P := Rl_iff.mpr (R_icmp_le_t hf ht hc (Rl_iff.mp kR))
theorem T_icmp_le_f {x y : Int32} {off : Int} {tgt : Nat} (hf : Fe μ pc (.if_icmp .le off) 3) (hq : pc + 3 = pc1) (ht : (pc : Int) + off = (tgt : Int)) (hc : ¬ (x ≤ y)) (kR : Rl d μ pc1 L S g I P) : Rl d μ pc L (.int y :: .int x :: S) g I P := by
  subst hq
  exact Rl_iff.mpr (R_icmp_le_f hf ht hc (Rl_iff.mp kR))
theorem T_ifnonnull {x : Nat} {off : Int} {tgt : Nat} (hf : Fe μ pc (.ifnonnull off) 3) (ht : (pc : Int) + off = (tgt : Int)) (kR : Rl d μ tgt L S g I P) : Rl d μ pc L (.ref x :: S) g I P := Rl_iff.mpr (R_ifnonnull hf ht (Rl_iff.mp kR))
theorem T_ifnonnullN {off : Int} (hf : Fe μ pc (.ifnonnull off) 3) (hq : pc + 3 = pc1) (kR : Rl d μ pc1 L S g I P) : Rl d μ pc L (.null :: S) g I P := by
  subst hq
  exact Rl_iff.mpr (R_ifnonnullN hf  (Rl_iff.mp kR))
theorem T_ifnull {x : Nat} {off : Int} (hf : Fe μ pc (.ifnull off) 3) (hq : pc + 3 = pc1) (kR : Rl d μ pc1 L S g I P) : Rl d μ pc L (.ref x :: S) g I P := by
  subst hq
  exact Rl_iff.mpr (R_ifnull hf  (Rl_iff.mp kR))
theorem T_ifnullN {off : Int} {tgt : Nat} (hf : Fe μ pc (.ifnull off) 3) (ht : (pc : Int) + off = (tgt : Int)) (kR : Rl d μ tgt L S g I P) : Rl d μ pc L (.null :: S) g I P := Rl_iff.mpr (R_ifnullN hf ht (Rl_iff.mp kR))
theorem T_tableIn {dflt lo hi : Int} {offs : Array Int} {len : Nat} {x : Int32} {off : Int} {tgt : Nat} (hf : Fe μ pc (.tableswitch dflt lo hi offs) len) (h1 : ¬ x.toInt < lo) (h2 : ¬ hi < x.toInt) (ho : offs[(x.toInt - lo).toNat]? = some off) (ht : (pc : Int) + off = (tgt : Int)) (kR : Rl d μ tgt L S g I P) : Rl d μ pc L (.int x :: S) g I P := Rl_iff.mpr (R_tableIn hf h1 h2 ho ht (Rl_iff.mp kR))
theorem T_tableOut {dflt lo hi : Int} {offs : Array Int} {len : Nat} {x : Int32} {tgt : Nat} (hf : Fe μ pc (.tableswitch dflt lo hi offs) len) (h1 : x.toInt < lo ∨ hi < x.toInt) (ht : (pc : Int) + dflt = (tgt : Int)) (kR : Rl d μ tgt L S g I P) : Rl d μ pc L (.int x :: S) g I P := Rl_iff.mpr (R_tableOut hf h1 ht (Rl_iff.mp kR))
theorem T_lookup {dflt : Int} {ps : Array (Int × Int)} {len : Nat} {x : Int32} {off : Int} {tgt : Nat} (hf : Fe μ pc (.lookupswitch dflt ps) len) (hps : (ps.toList.zip (ps.toList.drop 1)).all (fun (a, next) => a.1 < next.1) = true) (ho : Op.lookupswitch.offset ps.toList dflt x.toInt = off) (ht : (pc : Int) + off = (tgt : Int)) (kR : Rl d μ tgt L S g I P) : Rl d μ pc L (.int x :: S) g I P := Rl_iff.mpr (R_lookup hf hps ho ht (Rl_iff.mp kR))
theorem T_getI {i ci k n idx : Nat} {ty : FieldType} {fin : Bool} (hf : Fe μ pc (.getfield idx) 3) (hq : pc + 3 = pc1) (hl : FLk μ.1.cls idx ci k n ty fin) (hF : rfF ci k = false) (ha : isAg g i ci n) (kR : Rl d μ pc1 L (.int (I i k) :: S) g I P) : Rl d μ pc L (.ref i :: S) g I P := by
  subst hq
  exact Rl_iff.mpr (R_getI hf hl hF ha (Rl_iff.mp kR))
theorem T_getR {i ci k n idx j : Nat} {ty : FieldType} {fin : Bool} (hf : Fe μ pc (.getfield idx) 3) (hq : pc + 3 = pc1) (hl : FLk μ.1.cls idx ci k n ty fin) (hF : rfF ci k = true) (ha : isAg g i ci n) (hj : gR g i k = some j) (kR : Rl d μ pc1 L (.ref j :: S) g I P) : Rl d μ pc L (.ref i :: S) g I P := by
  subst hq
  exact Rl_iff.mpr (R_getR hf hl hF ha hj (Rl_iff.mp kR))
theorem T_putI {i ci k n idx : Nat} {ty : FieldType} {v : Int32} (hf : Fe μ pc (.putfield idx) 3) (hq : pc + 3 = pc1) (hl : FLk μ.1.cls idx ci k n ty false) (hF : rfF ci k = false) (ha : isAg g i ci n) (hn : narrow ty (.int v) = .int v) (hfit : fits ty (.int v) = true) (kR : Rl d μ pc1 L S g (pI I i k v) P) : Rl d μ pc L (.int v :: .ref i :: S) g I P := by
  subst hq
  exact Rl_iff.mpr (R_putI hf hl hF ha hn hfit (Rl_iff.mp kR))
theorem T_putIF {i ci k n idx : Nat} {ty : FieldType} {v : Int32} (hf : Fe μ pc (.putfield idx) 3) (hq : pc + 3 = pc1) (hl : FLk μ.1.cls idx ci k n ty true) (hF : rfF ci k = false) (ha : isAg g i ci n) (hn : narrow ty (.int v) = .int v) (hfit : fits ty (.int v) = true) (hini : μ.1.name = "<init>" ∧ (vwCl[ci]?).map (·.1) = some μ.1.cls) (kR : Rl d μ pc1 L S g (pI I i k v) P) : Rl d μ pc L (.int v :: .ref i :: S) g I P := by
  subst hq
  exact Rl_iff.mpr (R_putIF hf hl hF ha hn hfit hini (Rl_iff.mp kR))
theorem T_putRF {i ci k n idx j : Nat} {ty : FieldType} (hf : Fe μ pc (.putfield idx) 3) (hq : pc + 3 = pc1) (hl : FLk μ.1.cls idx ci k n ty true) (hF : rfF ci k = true) (ha : isAg g i ci n) (hty : tyR ty) (hini : μ.1.name = "<init>" ∧ (vwCl[ci]?).map (·.1) = some μ.1.cls) (kR : Rl d μ pc1 L S (gpR g i k (some j)) I P) : Rl d μ pc L (.ref j :: .ref i :: S) g I P := by
  subst hq
  exact Rl_iff.mpr (R_putRF hf hl hF ha hty hini (Rl_iff.mp kR))
theorem T_iald {i n : Nat} {x : Int32} (hf : Fe μ pc .iaload 1) (hq : pc + 1 = pc1) (ha : isAg g i 100 n) (hin : vp_in x n) (kR : Rl d μ pc1 L (.int (I i x.toNatClampNeg) :: S) g I P) : Rl d μ pc L (.int x :: .ref i :: S) g I P := by
  subst hq
  exact Rl_iff.mpr (R_iald hf ha hin (Rl_iff.mp kR))
theorem T_iast {i n : Nat} {x v : Int32} (hf : Fe μ pc .iastore 1) (hq : pc + 1 = pc1) (ha : isAg g i 100 n) (hin : vp_in x n) (kR : Rl d μ pc1 L S g (pI I i x.toNatClampNeg v) P) : Rl d μ pc L (.int v :: .int x :: .ref i :: S) g I P := by
  subst hq
  exact Rl_iff.mpr (R_iast hf ha hin (Rl_iff.mp kR))
theorem T_aald {i n e0 j : Nat} {x : Int32} (hf : Fe μ pc .aaload 1) (hq : pc + 1 = pc1) (he : e0 < 5) (ha : isAg g i (101 + e0) n) (hin : vp_in x n) (hj : gR g i x.toNatClampNeg = some j) (kR : Rl d μ pc1 L (.ref j :: S) g I P) : Rl d μ pc L (.int x :: .ref i :: S) g I P := by
  subst hq
  exact Rl_iff.mpr (R_aald hf he ha hin hj (Rl_iff.mp kR))
theorem T_aaldN {i n e0 : Nat} {x : Int32} (hf : Fe μ pc .aaload 1) (hq : pc + 1 = pc1) (he : e0 < 5) (ha : isAg g i (101 + e0) n) (hin : vp_in x n) (hj : gR g i x.toNatClampNeg = none) (kR : Rl d μ pc1 L (.null :: S) g I P) : Rl d μ pc L (.int x :: .ref i :: S) g I P := by
  subst hq
  exact Rl_iff.mpr (R_aaldN hf he ha hin hj (Rl_iff.mp kR))
theorem T_aast {i n e0 j ci nc : Nat} {x : Int32} (hf : Fe μ pc .aastore 1) (hq : pc + 1 = pc1) (he : elC[e0]? = some ci) (ha : isAg g i (101 + e0) n) (hin : vp_in x n) (hb : isAg g j ci nc) (kR : Rl d μ pc1 L S (gpR g i x.toNatClampNeg (some j)) I P) : Rl d μ pc L (.ref j :: .int x :: .ref i :: S) g I P := by
  subst hq
  exact Rl_iff.mpr (R_aast hf he ha hin hb (Rl_iff.mp kR))
theorem T_aastS {i n j : Nat} {x : Int32} (hf : Fe μ pc .aastore 1) (hq : pc + 1 = pc1) (ha : isAg g i 105 n) (hin : vp_in x n) (hb : j < 14) (kR : Rl d μ pc1 L S (gpR g i x.toNatClampNeg (some (1000000 + j))) I P) : Rl d μ pc L (.ref (1000000 + j) :: .int x :: .ref i :: S) g I P := by
  subst hq
  exact Rl_iff.mpr (R_aastS hf ha hin hb (Rl_iff.mp kR))
theorem T_alen {i t n : Nat} (hf : Fe μ pc .arraylength 1) (hq : pc + 1 = pc1) (ht : 100 ≤ t ∧ t < 106) (ha : isAg g i t n) (kR : Rl d μ pc1 L (.int (Int32.ofNat n) :: S) g I P) : Rl d μ pc L (.ref i :: S) g I P := by
  subst hq
  exact Rl_iff.mpr (R_alen hf ht ha (Rl_iff.mp kR))
theorem T_newa {x : Int32} {n : Nat} (hf : Fe μ pc (.newarray .int) 2) (hq : pc + 2 = pc1) (hx0 : ¬ x < 0) (hn : x.toNatClampNeg = n) (hb : n ≤ 100000) (hz0 : gz g < 1000000) (kR : Rl d μ pc1 L (.ref (gz g) :: S) (galloc g 100 n) (va_up I (gz g) (fun _ => 0)) P) : Rl d μ pc L (.int x :: S) g I P := by
  subst hq
  exact Rl_iff.mpr (R_newa hf hx0 hn hb hz0 (Rl_iff.mp kR))
theorem T_anew {x : Int32} {n e0 idx : Nat} {Cn : String} (hf : Fe μ pc (.anewarray idx) 3) (hq : pc + 3 = pc1) (he : elN[e0]? = some Cn) (hl : Cond.classLink μ.1.cls idx Cn ∈ GW) (hx0 : ¬ x < 0) (hn : x.toNatClampNeg = n) (hb : n ≤ 100000) (hz0 : gz g < 1000000) (kR : Rl d μ pc1 L (.ref (gz g) :: S) (galloc g (101 + e0) n) (va_up I (gz g) (fun _ => 0)) P) : Rl d μ pc L (.int x :: S) g I P := by
  subst hq
  exact Rl_iff.mpr (R_anew hf he hl hx0 hn hb hz0 (Rl_iff.mp kR))
theorem T_new {idx ci n : Nat} (hf : Fe μ pc (.new idx) 3) (hq : pc + 3 = pc1) (hl : NLk μ.1.cls idx ci n) (hz0 : gz g < 1000000) (kR : Rl d μ pc1 L (.ref (gz g) :: S) (galloc g ci n) (va_up I (gz g) (fun _ => 0)) P) : Rl d μ pc L S g I P := by
  subst hq
  exact Rl_iff.mpr (R_new hf hl hz0 (Rl_iff.mp kR))
theorem T_strV {j idx : Nat} (hf : Fe μ pc (.getfield idx) 3) (hq : pc + 3 = pc1) (hl : Cond.fieldLink μ.1.cls idx "java/lang/String" "value" "[B" ∈ GW) (hj : j < 14) (kR : Rl d μ pc1 L (.ref (1000100 + j) :: S) g I P) : Rl d μ pc L (.ref (1000000 + j) :: S) g I P := by
  subst hq
  exact Rl_iff.mpr (R_strV hf hl hj (Rl_iff.mp kR))
theorem T_strC {j idx : Nat} (hf : Fe μ pc (.getfield idx) 3) (hq : pc + 3 = pc1) (hl : Cond.fieldLink μ.1.cls idx "java/lang/String" "coder" "B" ∈ GW) (hj : j < 14) (kR : Rl d μ pc1 L (.int 0 :: S) g I P) : Rl d μ pc L (.ref (1000000 + j) :: S) g I P := by
  subst hq
  exact Rl_iff.mpr (R_strC hf hl hj (Rl_iff.mp kR))
theorem T_bald {j : Nat} {x : Int32} (hf : Fe μ pc .baload 1) (hq : pc + 1 = pc1) (hj : j < 14) (hin : vp_in x (strs.getD j []).length) (kR : Rl d μ pc1 L (.int ((strs.getD j []).getD x.toNatClampNeg 0) :: S) g I P) : Rl d μ pc L (.int x :: .ref (1000100 + j) :: S) g I P := by
  subst hq
  exact Rl_iff.mpr (R_bald hf hj hin (Rl_iff.mp kR))
theorem T_blen {j : Nat} (hf : Fe μ pc .arraylength 1) (hq : pc + 1 = pc1) (hj : j < 14) (kR : Rl d μ pc1 L (.int (Int32.ofNat (strs.getD j []).length) :: S) g I P) : Rl d μ pc L (.ref (1000100 + j) :: S) g I P := by
  subst hq
  exact Rl_iff.mpr (R_blen hf hj (Rl_iff.mp kR))
theorem T_gsC {idx : Nat} (hf : Fe μ pc (.getstatic idx) 3) (hq : pc + 3 = pc1) (hl : Cond.fieldLink μ.1.cls idx "java/lang/String" "COMPACT_STRINGS" "Z" ∈ GW) (kR : Rl d μ pc1 L (.int 1 :: S) g I P) : Rl d μ pc L S g I P := by
  subst hq
  exact Rl_iff.mpr (R_gsC hf hl (Rl_iff.mp kR))
theorem T_gsF {idx : Nat} (hf : Fe μ pc (.getstatic idx) 3) (hq : pc + 3 = pc1) (hl : Cond.fieldLink μ.1.cls idx "jdk/internal/util/Preconditions" "SIOOBE_FORMATTER" "Ljava/util/function/BiFunction;" ∈ GW) (kR : Rl d μ pc1 L (g.1.2.2 :: S) g I P) : Rl d μ pc L S g I P := by
  subst hq
  exact Rl_iff.mpr (R_gsF hf hl (Rl_iff.mp kR))
theorem T_gsA {idx : Nat} (hf : Fe μ pc (.getstatic idx) 3) (hq : pc + 3 = pc1) (hl : Cond.fieldLinkNest μ.1.cls idx "ShortCut" "ABOVE" "[I" "ShortCut" ∈ NW) (kR : Rl d μ pc1 L (.ref 1000200 :: S) g I P) : Rl d μ pc L S g I P := by
  subst hq
  exact Rl_iff.mpr (R_gsA hf hl (Rl_iff.mp kR))
theorem T_abld {x : Int32} (hf : Fe μ pc .iaload 1) (hq : pc + 1 = pc1) (hin : vp_in x 6) (kR : Rl d μ pc1 L (.int (aboveL.getD x.toNatClampNeg 0) :: S) g I P) : Rl d μ pc L (.int x :: .ref 1000200 :: S) g I P := by
  subst hq
  exact Rl_iff.mpr (R_abld hf hin (Rl_iff.mp kR))
theorem T_scld {x : Int32} (hf : Fe μ pc .iaload 1) (hq : pc + 1 = pc1) (hin : vp_in x g.1.2.1) (kR : Rl d μ pc1 L (.int (g.1.1 x.toNatClampNeg) :: S) g I P) : Rl d μ pc L (.int x :: .ref 1000300 :: S) g I P := by
  subst hq
  exact Rl_iff.mpr (R_scld hf hin (Rl_iff.mp kR))
theorem T_sclen  (hf : Fe μ pc .arraylength 1) (hq : pc + 1 = pc1) (kR : Rl d μ pc1 L (.int (Int32.ofNat g.1.2.1) :: S) g I P) : Rl d μ pc L (.ref 1000300 :: S) g I P := by
  subst hq
  exact Rl_iff.mpr (R_sclen hf  (Rl_iff.mp kR))
theorem T_acopy {idx i j n0 n1 : Nat} {sp dp n : Int32} (hf : Fe μ pc (.invokestatic idx) 3) (hq : pc + 3 = pc1) (hl : Cond.methodLink μ.1.cls idx arraycopyName ∈ GW) (hd : 0 < d) (hS : (S.map fun v => v.category).sum ≤ 8) (ha : isAg g i 100 n0) (hb : isAg g j 100 n1) (h1 : ¬ sp < 0) (h2 : ¬ dp < 0) (h3 : ¬ n < 0) (h4 : sp.toNatClampNeg + n.toNatClampNeg ≤ n0) (h5 : dp.toNatClampNeg + n.toNatClampNeg ≤ n1) (kR : Rl d μ pc1 L S g (va_up I j (va_cpy (I i) (I j) sp.toNatClampNeg dp.toNatClampNeg n.toNatClampNeg)) P) : Rl d μ pc L (.int n :: .int dp :: .ref j :: .int sp :: .ref i :: S) g I P := by
  subst hq
  exact Rl_iff.mpr (R_acopy hf hl hd hS ha hb h1 h2 h3 h4 h5 (Rl_iff.mp kR))
theorem T_objInit {idx i : Nat} (hf : Fe μ pc (.invokespecial idx) 3) (hq : pc + 3 = pc1) (hl : Cond.methodLink μ.1.cls idx objectInit ∈ GW) (hd : 0 < d) (hS : (S.map fun v => v.category).sum ≤ 8) (kR : Rl d μ pc1 L S g I P) : Rl d μ pc L (.ref i :: S) g I P := by
  subst hq
  exact Rl_iff.mpr (R_objInit hf hl hd hS (Rl_iff.mp kR))
theorem T_mmax {idx : Nat} {x y : Int32} (hf : Fe μ pc (.invokestatic idx) 3) (hq : pc + 3 = pc1) (hl : Cond.methodLink μ.1.cls idx Lib.Math.max.name ∈ GW) (hd : 0 < d) (hS : (S.map fun v => v.category).sum ≤ 8) (kR : Rl d μ pc1 L (.int (jmax x y) :: S) g I P) : Rl d μ pc L (.int y :: .int x :: S) g I P := by
  subst hq
  exact Rl_iff.mpr (R_mmax hf hl hd hS (Rl_iff.mp kR))
theorem T_mmin {idx : Nat} {x y : Int32} (hf : Fe μ pc (.invokestatic idx) 3) (hq : pc + 3 = pc1) (hl : Cond.methodLink μ.1.cls idx Lib.Math.min.name ∈ GW) (hd : 0 < d) (hS : (S.map fun v => v.category).sum ≤ 8) (kR : Rl d μ pc1 L (.int (jmin x y) :: S) g I P) : Rl d μ pc L (.int y :: .int x :: S) g I P := by
  subst hq
  exact Rl_iff.mpr (R_mmin hf hl hd hS (Rl_iff.mp kR))
theorem T_mabs {idx : Nat} {x : Int32} (hf : Fe μ pc (.invokestatic idx) 3) (hq : pc + 3 = pc1) (hl : Cond.methodLink μ.1.cls idx Lib.Math.abs.name ∈ GW) (hd : 0 < d) (hS : (S.map fun v => v.category).sum ≤ 8) (kR : Rl d μ pc1 L (.int (jabs x) :: S) g I P) : Rl d μ pc L (.int x :: S) g I P := by
  subst hq
  exact Rl_iff.mpr (R_mabs hf hl hd hS (Rl_iff.mp kR))
theorem T_cS {idx : Nat} {ν : Mth} {As : List Value} {d1 : Nat} {St : List Value} (hf : Fe μ pc (.invokestatic idx) 3) (hq : pc + 3 = pc1) (hd : d1 < d) (hS : (S.map fun v => v.category).sum ≤ 8) (hA : okA As ν.2.2.1 = true) (ho : MOk ν As.length) (hl : MLs μ.1.cls idx ν) (hs : St = (As.reverse ++ S)) (k : Cl d1 ν As g I (fun r1 g1 I1 => Rl d μ pc1 L (psh r1 S) g1 I1 P)) : Rl d μ pc L St g I P := by
  subst hq
  exact Rl_iff.mpr (R_cS hf hd hS hA ho hl hs (Cl_C k))
theorem T_cN {idx : Nat} {ν : Mth} {As : List Value} {d1 : Nat} {St : List Value} (hf : Fe μ pc (.invokestatic idx) 3) (hq : pc + 3 = pc1) (hd : d1 < d) (hS : (S.map fun v => v.category).sum ≤ 8) (hA : okA As ν.2.2.1 = true) (ho : MOk ν As.length) (hl : MLn μ.1.cls idx ν) (hs : St = (As.reverse ++ S)) (k : Cl d1 ν As g I (fun r1 g1 I1 => Rl d μ pc1 L (psh r1 S) g1 I1 P)) : Rl d μ pc L St g I P := by
  subst hq
  exact Rl_iff.mpr (R_cN hf hd hS hA ho hl hs (Cl_C k))
theorem T_cV {idx i ci n : Nat} {Cn : String} {ν : Mth} {As : List Value} {d1 : Nat} {St : List Value} (hf : Fe μ pc (.invokevirtual idx) 3) (hq : pc + 3 = pc1) (hd : d1 < d) (hS : (S.map fun v => v.category).sum ≤ 8) (hA : okA (.ref i :: As) ν.2.2.1 = true) (ho : MOk ν As.length) (hl : MLv μ.1.cls idx Cn ν) (hC : (vwCl[ci]?).map (·.1) = some Cn) (ha : isAg g i ci n) (hs : St = (As.reverse ++ .ref i :: S)) (k : Cl d1 ν (.ref i :: As) g I (fun r1 g1 I1 => Rl d μ pc1 L (psh r1 S) g1 I1 P)) : Rl d μ pc L St g I P := by
  subst hq
  exact Rl_iff.mpr (R_cV hf hd hS hA ho hl hC ha hs (Cl_C k))
theorem T_cT {idx j : Nat} {ν : Mth} {As : List Value} {d1 : Nat} {St : List Value} (hf : Fe μ pc (.invokevirtual idx) 3) (hq : pc + 3 = pc1) (hd : d1 < d) (hS : (S.map fun v => v.category).sum ≤ 8) (hA : okA (.ref (1000000 + j) :: As) ν.2.2.1 = true) (ho : MOk ν As.length) (hl : MLv μ.1.cls idx "java/lang/String" ν) (hj : j < 14) (hs : St = (As.reverse ++ .ref (1000000 + j) :: S)) (k : Cl d1 ν (.ref (1000000 + j) :: As) g I (fun r1 g1 I1 => Rl d μ pc1 L (psh r1 S) g1 I1 P)) : Rl d μ pc L St g I P := by
  subst hq
  exact Rl_iff.mpr (R_cT hf hd hS hA ho hl hj hs (Cl_C k))
theorem T_cI {idx i : Nat} {ν : Mth} {As : List Value} {d1 : Nat} {St : List Value} (hf : Fe μ pc (.invokespecial idx) 3) (hq : pc + 3 = pc1) (hd : d1 < d) (hS : (S.map fun v => v.category).sum ≤ 8) (hA : okA (.ref i :: As) ν.2.2.1 = true) (ho : MOk ν As.length) (hl : MLi μ.1.cls idx ν) (hs : St = (As.reverse ++ .ref i :: S)) (k : Cl d1 ν (.ref i :: As) g I (fun r1 g1 I1 => Rl d μ pc1 L (psh r1 S) g1 I1 P)) : Rl d μ pc L St g I P := by
  subst hq
  exact Rl_iff.mpr (R_cI hf hd hS hA ho hl hs (Cl_C k))
theorem T_cJ {idx i : Nat} {ν : Mth} {As : List Value} {d1 : Nat} {St : List Value} (hf : Fe μ pc (.invokespecial idx) 3) (hq : pc + 3 = pc1) (hd : d1 < d) (hS : (S.map fun v => v.category).sum ≤ 8) (hA : okA (.ref i :: As) ν.2.2.1 = true) (ho : MOk ν As.length) (hl : MLj μ.1.cls idx ν) (hs : St = (As.reverse ++ .ref i :: S)) (k : Cl d1 ν (.ref i :: As) g I (fun r1 g1 I1 => Rl d μ pc1 L (psh r1 S) g1 I1 P)) : Rl d μ pc L St g I P := by
  subst hq
  exact Rl_iff.mpr (R_cJ hf hd hS hA ho hl hs (Cl_C k))
theorem T_retI {v : Int32} {ty : FieldType} (hf : Fe μ pc .ireturn 1) (hr : μ.2.2.2 = some ty) (hn : narrow ty (.int v) = .int v) (k : P (some (.int v)) g I) : Rl d μ pc L [.int v] g I P := Rl_iff.mpr (R_retI hf hr hn k)
theorem T_retA {i : Nat} {ty : FieldType} (hf : Fe μ pc .areturn 1) (hr : μ.2.2.2 = some ty) (ht : tyR ty) (k : P (some (.ref i)) g I) : Rl d μ pc L [.ref i] g I P := Rl_iff.mpr (R_retA hf hr ht k)
theorem T_retN {ty : FieldType} (hf : Fe μ pc .areturn 1) (hr : μ.2.2.2 = some ty) (ht : tyR ty) (k : P (some .null) g I) : Rl d μ pc L [.null] g I P := Rl_iff.mpr (R_retN hf hr ht k)
theorem T_retV  (hf : Fe μ pc .return_ 1) (hr : μ.2.2.2 = none) (k : P none g I) : Rl d μ pc L [] g I P := Rl_iff.mpr (R_retV hf hr k)
theorem T_if_eq {x : Int32} {off : Int} {tgt : Nat} (hf : Fe μ pc (.ifCond .eq off) 3) (hq : pc + 3 = pc1) (ht : (pc : Int) + off = (tgt : Int)) (kt : x = 0 → Rl d μ tgt L S g I P) (kf : ¬ (x = 0) → Rl d μ pc1 L S g I P) : Rl d μ pc L (.int x :: S) g I P := by
  subst hq
  exact Rl_iff.mpr (R_if_eq hf ht (fun h => Rl_iff.mp (kt h)) (fun h => Rl_iff.mp (kf h)))
theorem T_if_ne {x : Int32} {off : Int} {tgt : Nat} (hf : Fe μ pc (.ifCond .ne off) 3) (hq : pc + 3 = pc1) (ht : (pc : Int) + off = (tgt : Int)) (kt : ¬ x = 0 → Rl d μ tgt L S g I P) (kf : ¬ (¬ x = 0) → Rl d μ pc1 L S g I P) : Rl d μ pc L (.int x :: S) g I P := by
  subst hq
  exact Rl_iff.mpr (R_if_ne hf ht (fun h => Rl_iff.mp (kt h)) (fun h => Rl_iff.mp (kf h)))
theorem T_if_lt {x : Int32} {off : Int} {tgt : Nat} (hf : Fe μ pc (.ifCond .lt off) 3) (hq : pc + 3 = pc1) (ht : (pc : Int) + off = (tgt : Int)) (kt : x < 0 → Rl d μ tgt L S g I P) (kf : ¬ (x < 0) → Rl d μ pc1 L S g I P) : Rl d μ pc L (.int x :: S) g I P := by
  subst hq
  exact Rl_iff.mpr (R_if_lt hf ht (fun h => Rl_iff.mp (kt h)) (fun h => Rl_iff.mp (kf h)))
theorem T_if_ge {x : Int32} {off : Int} {tgt : Nat} (hf : Fe μ pc (.ifCond .ge off) 3) (hq : pc + 3 = pc1) (ht : (pc : Int) + off = (tgt : Int)) (kt : 0 ≤ x → Rl d μ tgt L S g I P) (kf : ¬ (0 ≤ x) → Rl d μ pc1 L S g I P) : Rl d μ pc L (.int x :: S) g I P := by
  subst hq
  exact Rl_iff.mpr (R_if_ge hf ht (fun h => Rl_iff.mp (kt h)) (fun h => Rl_iff.mp (kf h)))
theorem T_if_gt {x : Int32} {off : Int} {tgt : Nat} (hf : Fe μ pc (.ifCond .gt off) 3) (hq : pc + 3 = pc1) (ht : (pc : Int) + off = (tgt : Int)) (kt : 0 < x → Rl d μ tgt L S g I P) (kf : ¬ (0 < x) → Rl d μ pc1 L S g I P) : Rl d μ pc L (.int x :: S) g I P := by
  subst hq
  exact Rl_iff.mpr (R_if_gt hf ht (fun h => Rl_iff.mp (kt h)) (fun h => Rl_iff.mp (kf h)))
theorem T_if_le {x : Int32} {off : Int} {tgt : Nat} (hf : Fe μ pc (.ifCond .le off) 3) (hq : pc + 3 = pc1) (ht : (pc : Int) + off = (tgt : Int)) (kt : x ≤ 0 → Rl d μ tgt L S g I P) (kf : ¬ (x ≤ 0) → Rl d μ pc1 L S g I P) : Rl d μ pc L (.int x :: S) g I P := by
  subst hq
  exact Rl_iff.mpr (R_if_le hf ht (fun h => Rl_iff.mp (kt h)) (fun h => Rl_iff.mp (kf h)))
theorem T_icmp_eq {x y : Int32} {off : Int} {tgt : Nat} (hf : Fe μ pc (.if_icmp .eq off) 3) (hq : pc + 3 = pc1) (ht : (pc : Int) + off = (tgt : Int)) (kt : x = y → Rl d μ tgt L S g I P) (kf : ¬ (x = y) → Rl d μ pc1 L S g I P) : Rl d μ pc L (.int y :: .int x :: S) g I P := by
  subst hq
  exact Rl_iff.mpr (R_icmp_eq hf ht (fun h => Rl_iff.mp (kt h)) (fun h => Rl_iff.mp (kf h)))
theorem T_icmp_ne {x y : Int32} {off : Int} {tgt : Nat} (hf : Fe μ pc (.if_icmp .ne off) 3) (hq : pc + 3 = pc1) (ht : (pc : Int) + off = (tgt : Int)) (kt : ¬ x = y → Rl d μ tgt L S g I P) (kf : ¬ (¬ x = y) → Rl d μ pc1 L S g I P) : Rl d μ pc L (.int y :: .int x :: S) g I P := by
  subst hq
  exact Rl_iff.mpr (R_icmp_ne hf ht (fun h => Rl_iff.mp (kt h)) (fun h => Rl_iff.mp (kf h)))
theorem T_icmp_lt {x y : Int32} {off : Int} {tgt : Nat} (hf : Fe μ pc (.if_icmp .lt off) 3) (hq : pc + 3 = pc1) (ht : (pc : Int) + off = (tgt : Int)) (kt : x < y → Rl d μ tgt L S g I P) (kf : ¬ (x < y) → Rl d μ pc1 L S g I P) : Rl d μ pc L (.int y :: .int x :: S) g I P := by
  subst hq
  exact Rl_iff.mpr (R_icmp_lt hf ht (fun h => Rl_iff.mp (kt h)) (fun h => Rl_iff.mp (kf h)))
theorem T_icmp_ge {x y : Int32} {off : Int} {tgt : Nat} (hf : Fe μ pc (.if_icmp .ge off) 3) (hq : pc + 3 = pc1) (ht : (pc : Int) + off = (tgt : Int)) (kt : y ≤ x → Rl d μ tgt L S g I P) (kf : ¬ (y ≤ x) → Rl d μ pc1 L S g I P) : Rl d μ pc L (.int y :: .int x :: S) g I P := by
  subst hq
  exact Rl_iff.mpr (R_icmp_ge hf ht (fun h => Rl_iff.mp (kt h)) (fun h => Rl_iff.mp (kf h)))
theorem T_icmp_gt {x y : Int32} {off : Int} {tgt : Nat} (hf : Fe μ pc (.if_icmp .gt off) 3) (hq : pc + 3 = pc1) (ht : (pc : Int) + off = (tgt : Int)) (kt : y < x → Rl d μ tgt L S g I P) (kf : ¬ (y < x) → Rl d μ pc1 L S g I P) : Rl d μ pc L (.int y :: .int x :: S) g I P := by
  subst hq
  exact Rl_iff.mpr (R_icmp_gt hf ht (fun h => Rl_iff.mp (kt h)) (fun h => Rl_iff.mp (kf h)))
theorem T_icmp_le {x y : Int32} {off : Int} {tgt : Nat} (hf : Fe μ pc (.if_icmp .le off) 3) (hq : pc + 3 = pc1) (ht : (pc : Int) + off = (tgt : Int)) (kt : x ≤ y → Rl d μ tgt L S g I P) (kf : ¬ (x ≤ y) → Rl d μ pc1 L S g I P) : Rl d μ pc L (.int y :: .int x :: S) g I P := by
  subst hq
  exact Rl_iff.mpr (R_icmp_le hf ht (fun h => Rl_iff.mp (kt h)) (fun h => Rl_iff.mp (kf h)))
theorem T_icmp_eqN {a b : Nat} {off : Int} {tgt : Nat} (hf : Fe μ pc (.if_icmp .eq off) 3) (hq : pc + 3 = pc1) (ht : (pc : Int) + off = (tgt : Int)) (ha : a < 2147483648) (hb : b < 2147483648) (kt : a = b → Rl d μ tgt L S g I P) (kf : ¬ (a = b) → Rl d μ pc1 L S g I P) : Rl d μ pc L (.int (nI b) :: .int (nI a) :: S) g I P :=
  T_icmp_eq hf hq ht (fun h => kt ((nI_eq ha hb).mp h)) (fun h => kf (fun z => h ((nI_eq ha hb).mpr z)))
theorem T_icmp_neN {a b : Nat} {off : Int} {tgt : Nat} (hf : Fe μ pc (.if_icmp .ne off) 3) (hq : pc + 3 = pc1) (ht : (pc : Int) + off = (tgt : Int)) (ha : a < 2147483648) (hb : b < 2147483648) (kt : ¬ a = b → Rl d μ tgt L S g I P) (kf : ¬ (¬ a = b) → Rl d μ pc1 L S g I P) : Rl d μ pc L (.int (nI b) :: .int (nI a) :: S) g I P :=
  T_icmp_ne hf hq ht (fun h => kt ((not_congr (nI_eq ha hb)).mp h)) (fun h => kf (fun z => h ((not_congr (nI_eq ha hb)).mpr z)))
theorem T_icmp_ltN {a b : Nat} {off : Int} {tgt : Nat} (hf : Fe μ pc (.if_icmp .lt off) 3) (hq : pc + 3 = pc1) (ht : (pc : Int) + off = (tgt : Int)) (ha : a < 2147483648) (hb : b < 2147483648) (kt : a < b → Rl d μ tgt L S g I P) (kf : ¬ (a < b) → Rl d μ pc1 L S g I P) : Rl d μ pc L (.int (nI b) :: .int (nI a) :: S) g I P :=
  T_icmp_lt hf hq ht (fun h => kt ((nI_ltI ha hb).mp h)) (fun h => kf (fun z => h ((nI_ltI ha hb).mpr z)))
theorem T_icmp_geN {a b : Nat} {off : Int} {tgt : Nat} (hf : Fe μ pc (.if_icmp .ge off) 3) (hq : pc + 3 = pc1) (ht : (pc : Int) + off = (tgt : Int)) (ha : a < 2147483648) (hb : b < 2147483648) (kt : b ≤ a → Rl d μ tgt L S g I P) (kf : ¬ (b ≤ a) → Rl d μ pc1 L S g I P) : Rl d μ pc L (.int (nI b) :: .int (nI a) :: S) g I P :=
  T_icmp_ge hf hq ht (fun h => kt ((nI_leI hb ha).mp h)) (fun h => kf (fun z => h ((nI_leI hb ha).mpr z)))
theorem T_icmp_gtN {a b : Nat} {off : Int} {tgt : Nat} (hf : Fe μ pc (.if_icmp .gt off) 3) (hq : pc + 3 = pc1) (ht : (pc : Int) + off = (tgt : Int)) (ha : a < 2147483648) (hb : b < 2147483648) (kt : b < a → Rl d μ tgt L S g I P) (kf : ¬ (b < a) → Rl d μ pc1 L S g I P) : Rl d μ pc L (.int (nI b) :: .int (nI a) :: S) g I P :=
  T_icmp_gt hf hq ht (fun h => kt ((nI_ltI hb ha).mp h)) (fun h => kf (fun z => h ((nI_ltI hb ha).mpr z)))
theorem T_icmp_leN {a b : Nat} {off : Int} {tgt : Nat} (hf : Fe μ pc (.if_icmp .le off) 3) (hq : pc + 3 = pc1) (ht : (pc : Int) + off = (tgt : Int)) (ha : a < 2147483648) (hb : b < 2147483648) (kt : a ≤ b → Rl d μ tgt L S g I P) (kf : ¬ (a ≤ b) → Rl d μ pc1 L S g I P) : Rl d μ pc L (.int (nI b) :: .int (nI a) :: S) g I P :=
  T_icmp_le hf hq ht (fun h => kt ((nI_leI ha hb).mp h)) (fun h => kf (fun z => h ((nI_leI ha hb).mpr z)))
theorem T_if_eqN {a : Nat} {off : Int} {tgt : Nat} (hf : Fe μ pc (.ifCond .eq off) 3) (hq : pc + 3 = pc1) (ht : (pc : Int) + off = (tgt : Int)) (ha : a < 2147483648) (kt : a = 0 → Rl d μ tgt L S g I P) (kf : ¬ (a = 0) → Rl d μ pc1 L S g I P) : Rl d μ pc L (.int (nI a) :: S) g I P :=
  T_if_eq hf hq ht (fun h => kt ((nI_eq (b := 0) ha (by decide)).mp h)) (fun h => kf (fun z => h ((nI_eq (b := 0) ha (by decide)).mpr z)))
theorem T_if_neN {a : Nat} {off : Int} {tgt : Nat} (hf : Fe μ pc (.ifCond .ne off) 3) (hq : pc + 3 = pc1) (ht : (pc : Int) + off = (tgt : Int)) (ha : a < 2147483648) (kt : ¬ a = 0 → Rl d μ tgt L S g I P) (kf : ¬ (¬ a = 0) → Rl d μ pc1 L S g I P) : Rl d μ pc L (.int (nI a) :: S) g I P :=
  T_if_ne hf hq ht (fun h => kt ((not_congr (nI_eq (b := 0) ha (by decide))).mp h)) (fun h => kf (fun z => h ((not_congr (nI_eq (b := 0) ha (by decide))).mpr z)))
theorem T_if_gtN {a : Nat} {off : Int} {tgt : Nat} (hf : Fe μ pc (.ifCond .gt off) 3) (hq : pc + 3 = pc1) (ht : (pc : Int) + off = (tgt : Int)) (ha : a < 2147483648) (kt : 0 < a → Rl d μ tgt L S g I P) (kf : ¬ (0 < a) → Rl d μ pc1 L S g I P) : Rl d μ pc L (.int (nI a) :: S) g I P :=
  T_if_gt hf hq ht (fun h => kt ((nI_ltI (a := 0) (by decide) ha).mp h)) (fun h => kf (fun z => h ((nI_ltI (a := 0) (by decide) ha).mpr z)))
theorem T_if_leN {a : Nat} {off : Int} {tgt : Nat} (hf : Fe μ pc (.ifCond .le off) 3) (hq : pc + 3 = pc1) (ht : (pc : Int) + off = (tgt : Int)) (ha : a < 2147483648) (kt : a ≤ 0 → Rl d μ tgt L S g I P) (kf : ¬ (a ≤ 0) → Rl d μ pc1 L S g I P) : Rl d μ pc L (.int (nI a) :: S) g I P :=
  T_if_le hf hq ht (fun h => kt ((nI_leI (b := 0) ha (by decide)).mp h)) (fun h => kf (fun z => h ((nI_leI (b := 0) ha (by decide)).mpr z)))
theorem T_if_ltN {a : Nat} {off : Int} {tgt : Nat} (hf : Fe μ pc (.ifCond .lt off) 3) (hq : pc + 3 = pc1) (ht : (pc : Int) + off = (tgt : Int)) (ha : a < 2147483648) (kf : Rl d μ pc1 L S g I P) : Rl d μ pc L (.int (nI a) :: S) g I P :=
  T_if_lt hf hq ht (fun h => absurd h (nI_pos ha)) (fun _ => kf)
theorem T_if_geN {a : Nat} {off : Int} {tgt : Nat} (hf : Fe μ pc (.ifCond .ge off) 3) (hq : pc + 3 = pc1) (ht : (pc : Int) + off = (tgt : Int)) (ha : a < 2147483648) (kt : Rl d μ tgt L S g I P) : Rl d μ pc L (.int (nI a) :: S) g I P :=
  T_if_ge hf hq ht (fun _ => kt) (fun h => absurd (nI_pos' ha) h)
theorem T_iaddN {a b : Nat} (hf : Fe μ pc .iadd 1) (hq : pc + 1 = pc1) (kR : Rl d μ pc1 L (.int (nI (a + b)) :: S) g I P) : Rl d μ pc L (.int (nI b) :: .int (nI a) :: S) g I P := T_iadd hf hq (by rw [nI_add]; exact kR)
theorem T_imulN {a b : Nat} (hf : Fe μ pc .imul 1) (hq : pc + 1 = pc1) (kR : Rl d μ pc1 L (.int (nI (a * b)) :: S) g I P) : Rl d μ pc L (.int (nI b) :: .int (nI a) :: S) g I P := T_imul hf hq (by rw [pk_mul]; exact kR)
theorem T_isubN {a b : Nat} (hf : Fe μ pc .isub 1) (hq : pc + 1 = pc1) (hle : b ≤ a) (kR : Rl d μ pc1 L (.int (nI (a - b)) :: S) g I P) : Rl d μ pc L (.int (nI b) :: .int (nI a) :: S) g I P := T_isub hf hq (by rw [pk_sub hle]; exact kR)
theorem T_iremN {a b : Nat} (hf : Fe μ pc .irem 1) (hq : pc + 1 = pc1) (ha : a < 2147483648) (h0 : 0 < b) (hb : b < 2147483648) (kR : Rl d μ pc1 L (.int (nI (a % b)) :: S) g I P) : Rl d μ pc L (.int (nI b) :: .int (nI a) :: S) g I P := T_irem hf hq (fun h => nI_ne0 h0 hb h) (by rw [pk_rem ha h0 hb]; exact kR)
theorem T_iincN {i a b : Nat} {n : Int} (hf : Fe μ pc (.iinc i n) 3) (hq : pc + 3 = pc1) (hl : L[i]? = some (some (.int (nI a)))) (hv : Int32.ofInt n = nI b) (kR : Rl d μ pc1 (L.set i (some (.int (nI (a + b))))) S g I P) : Rl d μ pc L S g I P := T_iinc hf hq hl hv (by rw [nI_add]; exact kR)
theorem T_ialdN {i n j : Nat} {v : Int32} (hf : Fe μ pc .iaload 1) (hq : pc + 1 = pc1) (ha : isAg g i 100 n) (hj : j < n) (hn : n < 2147483648) (hv : I i j = v) (kR : Rl d μ pc1 L (.int v :: S) g I P) : Rl d μ pc L (.int (nI j) :: .ref i :: S) g I P := T_iald hf hq ha (vp_in_nI hj hn) (by rw [nI_clamp (Nat.lt_trans hj hn), hv]; exact kR)
theorem T_iastN {i n j : Nat} {v : Int32} (hf : Fe μ pc .iastore 1) (hq : pc + 1 = pc1) (ha : isAg g i 100 n) (hj : j < n) (hn : n < 2147483648) (kR : Rl d μ pc1 L S g (pI I i j v) P) : Rl d μ pc L (.int v :: .int (nI j) :: .ref i :: S) g I P := T_iast hf hq ha (vp_in_nI hj hn) (by rw [nI_clamp (Nat.lt_trans hj hn)]; exact kR)
theorem T_aaldQ {i n e0 j q : Nat} (hf : Fe μ pc .aaload 1) (hq : pc + 1 = pc1) (ha : isAg g i (101 + e0) n) (he : e0 < 5) (hj : j < n) (hn : n < 2147483648) (hv : gR g i j = some q) (kR : Rl d μ pc1 L (.ref q :: S) g I P) : Rl d μ pc L (.int (nI j) :: .ref i :: S) g I P := T_aald hf hq he ha (vp_in_nI hj hn) (by rw [nI_clamp (Nat.lt_trans hj hn)]; exact hv) kR
theorem T_getV {i ci k n idx : Nat} {ty : FieldType} {fin : Bool} {v : Int32} (hf : Fe μ pc (.getfield idx) 3) (hq : pc + 3 = pc1) (hl : FLk μ.1.cls idx ci k n ty fin) (hF : rfF ci k = false) (ha : isAg g i ci n) (hv : I i k = v) (kR : Rl d μ pc1 L (.int v :: S) g I P) : Rl d μ pc L (.ref i :: S) g I P := T_getI hf hq hl hF ha (by rw [hv]; exact kR)
theorem T_mmaxN {a b idx : Nat} (hf : Fe μ pc (.invokestatic idx) 3) (hq : pc + 3 = pc1) (hl : Cond.methodLink μ.1.cls idx Lib.Math.max.name ∈ GW) (hd : 0 < d) (hS : (S.map fun v => v.category).sum ≤ 8) (ha : a < 2147483648) (hb : b < 2147483648) (kR : Rl d μ pc1 L (.int (nI (max a b)) :: S) g I P) : Rl d μ pc L (.int (nI b) :: .int (nI a) :: S) g I P := T_mmax hf hq hl hd hS (by
  have e : jmax (nI a) (nI b) = nI (max a b) := by
    unfold jmax
    by_cases h : nI a < nI b
    · rw [if_pos h, Nat.max_eq_right (Nat.le_of_lt ((nI_ltI ha hb).mp h))]
    · rw [if_neg h, Nat.max_eq_left (Nat.not_lt.mp (fun q => h ((nI_ltI ha hb).mpr q)))]
  rw [e]; exact kR)
theorem T_mminN {a b idx : Nat} (hf : Fe μ pc (.invokestatic idx) 3) (hq : pc + 3 = pc1) (hl : Cond.methodLink μ.1.cls idx Lib.Math.min.name ∈ GW) (hd : 0 < d) (hS : (S.map fun v => v.category).sum ≤ 8) (ha : a < 2147483648) (hb : b < 2147483648) (kR : Rl d μ pc1 L (.int (nI (min a b)) :: S) g I P) : Rl d μ pc L (.int (nI b) :: .int (nI a) :: S) g I P := T_mmin hf hq hl hd hS (by
  have e : jmin (nI a) (nI b) = nI (min a b) := by
    unfold jmin
    by_cases h : nI b < nI a
    · rw [if_pos h, Nat.min_eq_right (Nat.le_of_lt ((nI_ltI hb ha).mp h))]
    · rw [if_neg h, Nat.min_eq_left (Nat.not_lt.mp (fun q => h ((nI_ltI hb ha).mpr q)))]
  rw [e]; exact kR)
theorem fits_int (v : Int32) : narrow .int (.int v) = .int v ∧ fits .int (.int v) = true := ⟨rfl, rfl⟩
theorem pI_eq {i k : Nat} {v : Int32} : pI I i k v i k = v := by unfold pI; rw [va_up_self, va_up_self]
theorem pI_row {i k j m : Nat} {v : Int32} (h : j ≠ i) : pI I i k v j m = I j m := by unfold pI; rw [va_up_ne _ _ h]
theorem pI_col {i k j : Nat} {v : Int32} (h : j ≠ k) : pI I i k v i j = I i j := by unfold pI; rw [va_up_self, va_up_ne _ _ h]
theorem pI_rw {i k j : Nat} {v : Int32} (h : j ≠ i) : pI I i k v j = I j := by unfold pI; rw [va_up_ne _ _ h]
theorem pI_self {i k : Nat} {v : Int32} : pI I i k v i = va_up (I i) k v := by unfold pI; rw [va_up_self]
end TR
/-- where everything is, behind the two constructors -/
def kdL : List (Nat × Nat) := [(9, 11), (1, 11), (101, 14), (102, 14), (100, 3), (7, 6), (100, 60), (0, 6), (0, 6), (0, 6), (0, 6), (0, 6), (0, 6), (0, 6), (0, 6), (0, 6), (0, 6), (0, 6), (0, 6), (0, 6), (0, 6), (1, 11), (101, 14), (102, 14), (100, 3), (7, 6), (100, 60), (0, 6), (0, 6), (0, 6), (0, 6), (0, 6), (0, 6), (0, 6), (0, 6), (0, 6), (0, 6), (0, 6), (0, 6), (0, 6), (0, 6), (1, 11), (101, 14), (102, 14), (100, 3), (7, 6), (100, 60), (0, 6), (0, 6), (0, 6), (0, 6), (0, 6), (0, 6), (0, 6), (0, 6), (0, 6), (0, 6), (0, 6), (0, 6), (0, 6), (0, 6), (7, 6), (100, 60), (8, 2), (100, 14), (100, 8), (2, 10), (5, 2), (100, 96), (100, 96), (103, 4), (104, 5), (100, 60), (3, 3), (100, 24), (3, 3), (100, 24), (3, 3), (100, 24), (3, 3), (100, 24), (4, 4), (0, 6), (3, 3), (100, 24), (4, 4), (0, 6), (3, 3), (100, 24), (4, 4), (0, 6), (3, 3), (100, 24), (4, 4), (0, 6), (3, 3), (100, 24), (4, 4), (0, 6), (3, 3), (100, 24), (10, 31), (100, 1556), (100, 1556), (100, 156), (100, 14), (100, 8), (100, 62), (100, 96), (105, 3), (105, 3), (100, 100), (100, 3), (100, 100), (100, 4), (100, 4), (100, 96), (100, 24), (100, 5), (100, 125), (100, 60)]
def rL : List (List (Option Nat)) := [[some 1, some 21, none, some 41, some 61, some 63, some 66, some 70, some 71, some 72], [some 2, none, none, none, none, none, none, some 3, none, some 4, some 5], [some 7, some 8, some 9, some 10, some 11, some 12, some 13, some 14, some 15, some 16, some 17, some 18, some 19, some 20], [], [], [none, none, none, none, none, some 6], [], [], [], [], [], [], [], [], [], [], [], [], [], [], [], [some 22, none, none, none, none, none, none, some 23, none, some 24, some 25], [some 27, some 28, some 29, some 30, some 31, some 32, some 33, some 34, some 35, some 36, some 37, some 38, some 39, some 40], [], [], [none, none, none, none, none, some 26], [], [], [], [], [], [], [], [], [], [], [], [], [], [], [], [some 42, none, none, none, none, none, none, some 43, none, some 44, some 45], [some 47, some 48, some 49, some 50, some 51, some 52, some 53, some 54, some 55, some 56, some 57, some 58, some 59, some 60], [], [], [none, none, none, none, none, some 46], [], [], [], [], [], [], [], [], [], [], [], [], [], [], [], [none, none, none, none, none, some 62], [], [some 64, some 65], [], [], [some 67, none, none, none, none, some 69], [some 68], [], [], [some 73, some 75, some 77, some 79], [some 81, some 85, some 89, some 93, some 97], [], [none, none, some 74], [], [none, none, some 76], [], [none, none, some 78], [], [none, none, some 80], [], [none, some 82, some 83], [], [none, none, some 84], [], [none, some 86, some 87], [], [none, none, some 88], [], [none, some 90, some 91], [], [none, none, some 92], [], [none, some 94, some 95], [], [none, none, some 96], [], [none, some 98, some 99], [], [none, none, some 100], [], [some 102, some 103, none, some 104, some 105, some 106, some 107, some 108, none, some 109, some 110, none, none, none, none, none, none, none, none, none, some 111, some 112, some 113, some 114, some 115, some 116, some 117, some 118, some 119, some 120], [], [], [], [], [], [], [], [some 1000000, some 1000001, some 1000002], [some 1000003, some 1000004, some 1000005], [], [], [], [], [], [], [], [], [], []]
def kd0 (i : Nat) : Nat × Nat := kdL.getD i (0, 0)
def R0 (i k : Nat) : Option Nat := (rL.getD i []).getD k none
def GeoOK (g : Geo) : Prop := 121 ≤ gz g ∧ gz g ≤ 1000 ∧ (∀ i, i < 121 → gk g i = kd0 i) ∧ (∀ i k, i < 121 → i ≠ 3 → i ≠ 23 → i ≠ 43 → gR g i k = R0 i k)
theorem ga {g : Geo} (G : GeoOK g) {i t n : Nat} (hi : i < 121) (e : kd0 i = (t, n)) : isAg g i t n := ⟨Nat.lt_of_lt_of_le hi G.1, (G.2.2.1 i hi).trans e⟩
theorem gr {g : Geo} (G : GeoOK g) {i k : Nat} {r : Option Nat} (hi : i < 121 ∧ i ≠ 3 ∧ i ≠ 23 ∧ i ≠ 43) (e : R0 i k = r) : gR g i k = r := (G.2.2.2 i k hi.1 hi.2.1 hi.2.2.1 hi.2.2.2).trans e
