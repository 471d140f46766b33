/-! The pure side: rows of ints as functions, what each call answers and does to them. -/
abbrev cBAD : Int32 := -1000000001
abbrev cNO : Int32 := -1000000002
abbrev cFULL : Int32 := -1000000003
abbrev cNONE : Int32 := -1000000005
abbrev cNOTHING : Int32 := -1000000011
abbrev cKIND : Int32 := -1000000012
abbrev cINDEX : Int32 := -1000000013
abbrev cSIZE : Int32 := -1000000014
abbrev Row : Type := Nat → Int32
/-- v is one of 0 .. n-1 -/
abbrev rg (n : Nat) (v : Int32) : Prop := 0 ≤ v.toInt ∧ v.toInt < (n : Int)
abbrev bt (lo hi : Int) (v : Int32) : Prop := lo ≤ v.toInt ∧ v.toInt ≤ hi
theorem rg_of {n : Nat} {v : Int32} (h : rg n v) (hn : n < 2147483648) : ∃ j, j < n ∧ v = nI j := vp_in_of (vp_in_iff.mpr h) hn
theorem rg_nI {n j : Nat} (h : j < n) (hn : n < 2147483648) : rg n (nI j) := vp_in_iff.mp (vp_in_nI h hn)
theorem bt_of {lo hi : Nat} {v : Int32} (h : bt lo hi v) (hn : hi < 2147483647) : ∃ j, lo ≤ j ∧ j ≤ hi ∧ v = nI j := by
  obtain ⟨j, hj, rfl⟩ := rg_of (n := hi + 1) (v := v) ⟨by have := h.1; omega, by have := h.2; omega⟩ (by omega)
  have := nI_toInt (n := j) (by omega)
  have h1 := h.1
  have h2 := h.2
  rw [this] at h1 h2
  exact ⟨j, by omega, by omega, rfl⟩
theorem toInt_inj {a b : Int32} (h : a.toInt = b.toInt) : a = b := Int32.toInt_inj.mp h
theorem le_toInt {a b : Int32} : a ≤ b ↔ a.toInt ≤ b.toInt := Int32.le_iff_toInt_le
theorem lt_toInt {a b : Int32} : a < b ↔ a.toInt < b.toInt := Int32.lt_iff_toInt_lt
theorem jmin_comm (x y : Int32) : jmin x y = jmin y x := by
  unfold jmin
  by_cases h : y < x
  · rw [if_pos h, if_neg (fun q => by rw [lt_toInt] at *; omega)]
  · rw [if_neg h]
    by_cases h2 : x < y
    · rw [if_pos h2]
    · rw [if_neg h2]
      apply toInt_inj
      rw [lt_toInt] at *
      omega
/-- v held within lo .. hi -/
def hld (lo hi v : Int32) : Int32 := jmax lo (jmin hi v)
theorem hld_bt {lo hi : Nat} (h : lo ≤ hi) (hh : hi < 2147483648) (v : Int32) : ∃ j, lo ≤ j ∧ j ≤ hi ∧ hld (nI lo) (nI hi) v = nI j := by
  have e1 := nI_toInt (n := lo) (by omega)
  have e2 := nI_toInt (n := hi) hh
  unfold hld jmax jmin
  by_cases c1 : v < nI hi
  · rw [if_pos c1]
    by_cases c2 : nI lo < v
    · rw [if_pos c2]
      rw [lt_toInt] at c1 c2
      rw [e1] at c2
      rw [e2] at c1
      obtain ⟨j, a, b, c⟩ := bt_of (lo := lo) (hi := hi - 1) (v := v) ⟨by omega, by omega⟩ (by omega)
      exact ⟨j, a, by omega, c⟩
    · rw [if_neg c2]
      exact ⟨lo, Nat.le_refl _, h, rfl⟩
  · rw [if_neg c1]
    by_cases c2 : nI lo < nI hi
    · rw [if_pos c2]
      exact ⟨hi, h, Nat.le_refl _, rfl⟩
    · rw [if_neg c2]
      exact ⟨lo, Nat.le_refl _, h, rfl⟩
/-- a kind o is the kind k, or one above it -/
def und (k o : Nat) : Bool := o == k || o == 0 || (k == 3 && o == 1) || (k == 4 && o == 2)
def bf (N : Row) (b k : Nat) : Int32 := N (12 + 6 * b + k)
/-- the text that counts for a key, among the first t -/
def txt (N : Row) (key : Nat) : Nat → Option Nat
  | 0 => none
  | t + 1 => if N (156 + 100 * t) = nI key then some t else txt N key t
def opt1 (o : Option Nat) : Int32 := match o with
  | none => -1
  | some t => nI t
theorem txt_lt {N : Row} {key : Nat} : ∀ {n t : Nat}, txt N key n = some t → t < n ∧ N (156 + 100 * t) = nI key
  | 0, t, h => by cases h
  | n + 1, t, h => by
    unfold txt at h
    by_cases c : N (156 + 100 * n) = nI key
    · rw [if_pos c] at h
      cases h
      exact ⟨Nat.lt_succ_self _, c⟩
    · rw [if_neg c] at h
      have := txt_lt h
      exact ⟨by omega, this.2⟩
/-- what two numbers give under a sign -/
def dn (op a b : Int32) : Int32 := if op = -20 then (if a = 0 ∧ b = 0 then nI 0 else nI 1) else if op = -21 then (if a = 0 ∨ b = 0 then nI 0 else nI 1) else if op = -22 then (if a < b then nI 1 else nI 0) else if op = -23 then (if a = b then nI 1 else nI 0) else if op = -24 then (if b < a then nI 1 else nI 0) else if op = -25 then a + b else if op = -26 then a - b else if op = -27 then a * b else if b = 0 then nI 0 else a / b
/-- the depth behind k codes -/
def dp (c : Row) : Nat → Nat
  | 0 => 0
  | k + 1 => if (-10 : Int32) ≤ c k then dp c k + 1 else if c k = -29 then dp c k else dp c k - 1
/-- the pile behind k codes -/
def pl (c nm : Row) : Nat → Row
  | 0 => fun _ => 0
  | k + 1 => if (0 : Int32) ≤ c k then va_up (pl c nm k) (dp c k) (c k) else if (-10 : Int32) ≤ c k then va_up (pl c nm k) (dp c k) (nm (c k - -10).toNatClampNeg) else if c k = -29 then va_up (pl c nm k) (dp c k - 1) (if pl c nm k (dp c k - 1) = 0 then nI 1 else nI 0) else va_up (pl c nm k) (dp c k - 2) (dn (c k) (pl c nm k (dp c k - 2)) (pl c nm k (dp c k - 1)))
/-- a row of m codes that can be worked out: lv numbers and names, nn names there are -/
def okc (c : Row) (m lv nn : Nat) : Prop := (∀ k, k < m → ((-10 : Int32) ≤ c k → dp c k < lv ∧ (c k < 0 → rg nn (c k - -10))) ∧ (c k = -29 → 1 ≤ dp c k) ∧ (¬ (-10 : Int32) ≤ c k → ¬ c k = -29 → 2 ≤ dp c k)) ∧ dp c m = 1
def cod (N : Row) (t : Nat) : Row := fun k => N (159 + 100 * t + k)
def nm3 (a b c : Int32) : Row := fun k => if k = 0 then a else if k = 1 then b else c
def evl (N : Row) (t m : Nat) (nm : Row) : Int32 := pl (cod N t) nm m 0
def nnOf (key : Nat) : Nat := if key = 2 then 2 else 3
/-- text t of a row is in order -/
def okT (N : Row) (t : Nat) : Prop := ∃ key lv m : Nat, N (156 + 100 * t) = nI key ∧ key < 3 ∧ N (157 + 100 * t) = nI lv ∧ lv ≤ 96 ∧ N (158 + 100 * t) = nI m ∧ m ≤ 96 ∧ okc (cod N t) m lv (nnOf key)
/-- bit b of a row is in order -/
def okB (N : Row) (b : Nat) : Prop := ∃ k o t l r : Nat, bf N b 0 = nI k ∧ k < 6 ∧ bf N b 1 = nI o ∧ o < 8 ∧ bf N b 2 = nI t ∧ t < 8 ∧ o ≠ t ∧ bf N b 3 = nI l ∧ 1 ≤ l ∧ l ≤ 99 ∧ bf N b 4 = nI r ∧ r ≤ 999 ∧ (bf N b 5 = cNONE ∨ ∃ s : Nat, s ≤ 999 ∧ bf N b 5 = nI s)
/-- a land's row is in order: n bits, t texts -/
def okL (N : Row) (n tn : Nat) : Prop := N 5 = nI n ∧ n ≤ 14 ∧ N 6 = nI tn ∧ tn ≤ 14 ∧ (∀ b, b < n → okB N b) ∧ (∀ t, t < tn → okT N t) ∧ (N 3 = nI 0 ∨ N 3 = nI 1) ∧ (∃ gs : Nat, N 4 = nI gs ∧ 1 ≤ gs ∧ gs ≤ 99)
/-- minutes of a bit as a plain one -/
def pln (N : Row) (tn b : Nat) : Int32 := match txt N 0 tn with
  | none => bf N b 3
  | some t => hld (nI 1) (nI 999) (evl N t (N (158 + 100 * t)).toNatClampNeg (nm3 (bf N b 3) (N 3) (bf N b 4)))
def tkV (k : Nat) (p tr ln wet : Int32) : Int32 := match k with
  | 1 => jmax (nI 1) (p - tr)
  | 2 => if wet = nI 1 then nI 2 * p else p
  | 3 => jmax (nI 1) (jmax (nI 1) (p - tr) / nI 2)
  | 4 => if wet = nI 1 then nI 2 * p else p
  | 5 => ln
  | _ => p
def tkI (N : Row) (tn b : Nat) : Int32 := tkV (bf N b 0).toNatClampNeg (pln N tn b) (bf N b 4) (bf N b 3) (N 3)
def brd (N : Row) (b : Nat) : Bool := ((bf N b 0).toNatClampNeg == 4 && N 3 == nI 1) || (((bf N b 0).toNatClampNeg == 1 || (bf N b 0).toNatClampNeg == 3) && decide (90 < (bf N b 3).toNatClampNeg))
def thI (N : Row) (tn b : Nat) : Int32 := match txt N 1 tn with
  | none => if bf N b 5 = cNONE then N 4 else hld (nI 1) (nI 999) (bf N b 5)
  | some t => hld (nI 1) (nI 999) (evl N t (N (158 + 100 * t)).toNatClampNeg (nm3 (if bf N b 5 = cNONE then nI 0 else bf N b 5) (N 4) (bf N b 0)))
def wthV (k : Nat) (l : Int32) : Int32 := match k with
  | 1 => l + nI 4
  | 2 => nI 99 - l
  | 3 => nI 2 * (l + nI 4)
  | 4 => nI 93 - l
  | 5 => nI 60
  | _ => l
/-- the same memory but for the rows in S -/
def eqx (S : List Nat) (I I' : IM) : Prop := ∀ i, i ∉ S → I' i = I i
theorem eqx_rf {S : List Nat} {I : IM} : eqx S I I := fun _ _ => rfl
theorem eqx_tr {S : List Nat} {I J K : IM} (h1 : eqx S I J) (h2 : eqx S J K) : eqx S I K := fun i hi => (h2 i hi).trans (h1 i hi)
theorem eqx_up {S : List Nat} {I J : IM} (h : eqx S I J) {i : Nat} (w : Row) (hi : i ∈ S) : eqx S I (va_up J i w) := fun j hj => (va_up_ne J w (fun q : j = i => hj (by rw [q]; exact hi))).trans (h j hj)
theorem eqx_pI {S : List Nat} {I J : IM} (h : eqx S I J) {i k : Nat} (v : Int32) (hi : i ∈ S) : eqx S I (pI J i k v) := eqx_up h _ hi
theorem eqx_mono {S T : List Nat} {I J : IM} (h : eqx S I J) (hs : ∀ i ∈ S, i ∈ T) : eqx T I J := fun i hi => h i (fun q => hi (hs i q))
