/-! Least ways: eight rounds over the bits give the least costs, whichever end of a bit is looked at first. -/
section PU3
abbrev Nf : Type := Nat → Nat
def rx (f : Nf) (o t c : Nat) : Nf := if c = 0 then f else va_up (va_up f o (min (f o) (f t + c))) t (min (va_up f o (min (f o) (f t + c)) t) (va_up f o (min (f o) (f t + c)) o + c))
def rnd (e : Nat → Nat × Nat) (c f : Nf) : Nat → Nf
  | 0 => f
  | k + 1 => rx (rnd e c f k) (e k).1 (e k).2 (c k)
def rnds (e : Nat → Nat × Nat) (c : Nf) (n : Nat) (f : Nf) : Nat → Nf
  | 0 => f
  | r + 1 => rnd e c (rnds e c n f r) n
def ini (goal : Nat) : Nf := fun s => if s = goal then 0 else 1000000
def swp (e : Nat → Nat × Nat) : Nat → Nat × Nat := fun b => ((e b).2, (e b).1)
def okE (e : Nat → Nat × Nat) (n : Nat) : Prop := ∀ b, b < n → (e b).1 < 8 ∧ (e b).2 < 8 ∧ (e b).1 ≠ (e b).2
def isD (e : Nat → Nat × Nat) (c : Nf) (n goal : Nat) (f : Nf) : Prop := f goal = 0 ∧ (∀ v, f v ≤ 1000000) ∧ (∀ b, b < n → c b ≠ 0 → f (e b).1 ≤ f (e b).2 + c b ∧ f (e b).2 ≤ f (e b).1 + c b) ∧ ∀ v, v = goal ∨ f v = 1000000 ∨ ∃ b, b < n ∧ c b ≠ 0 ∧ ((v = (e b).1 ∧ f v = f (e b).2 + c b) ∨ (v = (e b).2 ∧ f v = f (e b).1 + c b))
def wlk (e : Nat → Nat × Nat) (c : Nf) (n goal : Nat) : Nat → Nat → Nat → Prop
  | 0, v, m => v = goal ∧ m = 0
  | k + 1, v, m => ∃ b u m', b < n ∧ c b ≠ 0 ∧ ((u = (e b).1 ∧ v = (e b).2) ∨ (u = (e b).2 ∧ v = (e b).1)) ∧ wlk e c n goal k u m' ∧ m = m' + c b
theorem isD_ex (e : Nat → Nat × Nat) (c : Nf) (n goal : Nat) : ∃ f, isD e c n goal f := by
  have hex : ∀ v, ∃ m, (m = 1000000 ∨ ∃ k, wlk e c n goal k v m) ∧ ∀ j, j < m → ¬ (j = 1000000 ∨ ∃ k, wlk e c n goal k v j) := fun v => pk_least (fun m => m = 1000000 ∨ ∃ k, wlk e c n goal k v m) ⟨1000000, Or.inl rfl⟩
  obtain ⟨f, hf⟩ := Classical.axiomOfChoice hex
  have least : ∀ v m, (m = 1000000 ∨ ∃ k, wlk e c n goal k v m) → f v ≤ m := fun v m h => Nat.not_lt.mp (fun q => (hf v).2 m q h)
  have tri : ∀ b u v, b < n → c b ≠ 0 → ((u = (e b).1 ∧ v = (e b).2) ∨ (u = (e b).2 ∧ v = (e b).1)) → f v ≤ f u + c b := by
    intro b u v hb hc huv
    rcases (hf u).1 with h | ⟨k, h⟩
    · have := least v 1000000 (Or.inl rfl)
      omega
    · exact least v _ (Or.inr ⟨k + 1, b, u, f u, hb, hc, huv, h, rfl⟩)
  refine ⟨f, ?_, fun v => least v _ (Or.inl rfl), fun b hb hc => ⟨tri b _ _ hb hc (Or.inr ⟨rfl, rfl⟩), tri b _ _ hb hc (Or.inl ⟨rfl, rfl⟩)⟩, fun v => ?_⟩
  · have := least goal 0 (Or.inr ⟨0, rfl, rfl⟩)
    omega
  · rcases (hf v).1 with h | ⟨k, h⟩
    · exact Or.inr (Or.inl h)
    · cases k with
      | zero => exact Or.inl h.1
      | succ k =>
        obtain ⟨b, u, m', hb, hc, huv, hw, hm⟩ := h
        have h1 := least u m' (Or.inr ⟨k, hw⟩)
        have h2 := tri b u v hb hc huv
        refine Or.inr (Or.inr ⟨b, hb, hc, ?_⟩)
        rcases huv with ⟨rfl, rfl⟩ | ⟨rfl, rfl⟩
        · exact Or.inr ⟨rfl, by omega⟩
        · exact Or.inl ⟨rfl, by omega⟩
theorem isD_le {e : Nat → Nat × Nat} {c : Nf} {n goal : Nat} {f f' : Nf} (h : isD e c n goal f) (h' : isD e c n goal f') : ∀ m v, f' v ≤ m → f v ≤ f' v := by
  intro m
  induction m with
  | zero =>
    intro v hv
    rcases h'.2.2.2 v with rfl | q | ⟨b, hb, hc, q⟩
    · rw [h.1]; exact Nat.zero_le _
    · omega
    · rcases q with ⟨-, q⟩ | ⟨-, q⟩ <;> omega
  | succ m ih =>
    intro v hv
    rcases h'.2.2.2 v with rfl | q | ⟨b, hb, hc, q⟩
    · rw [h.1]; exact Nat.zero_le _
    · rw [q]; exact h.2.1 v
    · obtain ⟨t1, t2⟩ := h.2.2.1 b hb hc
      rcases q with ⟨rfl, q⟩ | ⟨rfl, q⟩
      · have := ih (e b).2 (by omega)
        omega
      · have := ih (e b).1 (by omega)
        omega
theorem isD_eq {e : Nat → Nat × Nat} {c : Nf} {n goal : Nat} {f f' : Nf} (h : isD e c n goal f) (h' : isD e c n goal f') : f = f' := funext fun v => Nat.le_antisymm (isD_le h h' _ v (Nat.le_refl _)) (isD_le h' h _ v (Nat.le_refl _))
theorem isD_sw {e : Nat → Nat × Nat} {c : Nf} {n goal : Nat} {f : Nf} (h : isD e c n goal f) : isD (swp e) c n goal f := by
  refine ⟨h.1, h.2.1, fun b hb hc => ⟨(h.2.2.1 b hb hc).2, (h.2.2.1 b hb hc).1⟩, fun v => ?_⟩
  rcases h.2.2.2 v with q | q | ⟨b, hb, hc, q⟩
  · exact Or.inl q
  · exact Or.inr (Or.inl q)
  · exact Or.inr (Or.inr ⟨b, hb, hc, q.symm⟩)
/-- between the least costs and none -/
def gd (d f : Nf) (goal : Nat) : Prop := (∀ v, d v ≤ f v) ∧ (∀ v, f v ≤ 1000000) ∧ f goal = 0
theorem rx_o {f : Nf} {o t c : Nat} (h : o ≠ t) (hc : c ≠ 0) : rx f o t c o = min (f o) (f t + c) := by
  unfold rx
  rw [if_neg hc, va_up_ne _ _ h, va_up_self]
theorem rx_t {f : Nf} {o t c : Nat} (h : o ≠ t) (hc : c ≠ 0) : rx f o t c t = min (f t) (min (f o) (f t + c) + c) := by
  unfold rx
  rw [if_neg hc, va_up_self, va_up_ne _ _ (Ne.symm h), va_up_self]
theorem rx_n {f : Nf} {o t c v : Nat} (ho : v ≠ o) (ht : v ≠ t) : rx f o t c v = f v := by
  unfold rx
  by_cases hc : c = 0
  · rw [if_pos hc]
  · rw [if_neg hc, va_up_ne _ _ ht, va_up_ne _ _ ho]
theorem rx_le {f : Nf} {o t c : Nat} (h : o ≠ t) (v : Nat) : rx f o t c v ≤ f v := by
  by_cases hc : c = 0
  · unfold rx; rw [if_pos hc]; exact Nat.le_refl _
  · by_cases h1 : v = o
    · subst h1; rw [rx_o h hc]; exact Nat.min_le_left _ _
    · by_cases h2 : v = t
      · subst h2; rw [rx_t h hc]; exact Nat.min_le_left _ _
      · rw [rx_n h1 h2]; exact Nat.le_refl _
theorem rx_gd {e : Nat → Nat × Nat} {c : Nf} {n goal b : Nat} {d f : Nf} (hd : isD e c n goal d) (hf : gd d f goal) (hb : b < n) (hn : (e b).1 ≠ (e b).2) : gd d (rx f (e b).1 (e b).2 (c b)) goal := by
  by_cases hc : c b = 0
  · unfold rx; rw [if_pos hc]; exact hf
  · obtain ⟨t1, t2⟩ := hd.2.2.1 b hb hc
    have a1 := hf.1 (e b).1
    have a2 := hf.1 (e b).2
    have ge : ∀ v, d v ≤ rx f (e b).1 (e b).2 (c b) v := by
      intro v
      by_cases h1 : v = (e b).1
      · subst h1; rw [rx_o hn hc]; omega
      · by_cases h2 : v = (e b).2
        · subst h2; rw [rx_t hn hc]; omega
        · rw [rx_n h1 h2]; exact hf.1 v
    refine ⟨ge, fun v => Nat.le_trans (rx_le hn v) (hf.2.1 v), ?_⟩
    have := rx_le (f := f) (c := c b) hn goal
    have := hf.2.2
    omega
theorem rnd_gd {e : Nat → Nat × Nat} {c : Nf} {n goal : Nat} {d f : Nf} (he : okE e n) (hd : isD e c n goal d) (hf : gd d f goal) : ∀ k, k ≤ n → gd d (rnd e c f k) goal ∧ ∀ v, rnd e c f k v ≤ f v
  | 0, _ => ⟨hf, fun _ => Nat.le_refl _⟩
  | k + 1, hk => by
    obtain ⟨h1, h2⟩ := rnd_gd he hd hf k (by omega)
    have hn := (he k (by omega)).2.2
    exact ⟨rx_gd hd h1 (by omega) hn, fun v => Nat.le_trans (rx_le hn v) (h2 v)⟩
theorem rnd_le {e : Nat → Nat × Nat} {c f : Nf} {n : Nat} (he : okE e n) : ∀ k j, j ≤ k → k ≤ n → ∀ v, rnd e c f k v ≤ rnd e c f j v
  | 0, j, hj, _, v => by
    obtain rfl : j = 0 := by omega
    exact Nat.le_refl _
  | k + 1, j, hj, hk, v => by
    by_cases h : j = k + 1
    · subst h; exact Nat.le_refl _
    · exact Nat.le_trans (rx_le (he k (by omega)).2.2 v) (rnd_le he k j (by omega) (by omega) v)
def cn (p : Nat → Bool) : Nat → Nat
  | 0 => 0
  | k + 1 => cn p k + (if p k = true then 1 else 0)
theorem cn_le {p q : Nat → Bool} : ∀ n, (∀ v, v < n → q v = true → p v = true) → cn q n ≤ cn p n
  | 0, _ => Nat.le_refl _
  | n + 1, h => by
    have ih := cn_le (p := p) (q := q) n (fun v hv => h v (by omega))
    have h1 := h n (by omega)
    unfold cn
    by_cases c1 : q n = true
    · rw [if_pos c1, if_pos (h1 c1)]; omega
    · rw [if_neg c1]; omega
theorem cn_lt {p q : Nat → Bool} : ∀ n, (∀ v, v < n → q v = true → p v = true) → (∃ v, v < n ∧ p v = true ∧ q v = false) → cn q n < cn p n
  | 0, _, ⟨v, hv, _⟩ => by omega
  | n + 1, h, ⟨v, hv, hp, hq⟩ => by
    have h1 := h n (by omega)
    unfold cn
    by_cases hvn : v = n
    · subst hvn
      have := cn_le (p := p) (q := q) v (fun w hw => h w (by omega))
      rw [if_neg (by rw [hq]; decide), if_pos hp]
      omega
    · have := cn_lt (p := p) (q := q) n (fun w hw => h w (by omega)) ⟨v, by omega, hp, hq⟩
      by_cases c1 : q n = true
      · rw [if_pos c1, if_pos (h1 c1)]; omega
      · rw [if_neg c1]; omega
theorem cn_0 {p : Nat → Bool} : ∀ n, cn p n = 0 → ∀ v, v < n → p v = false
  | 0, _, v, hv => by omega
  | n + 1, h, v, hv => by
    unfold cn at h
    by_cases c1 : p n = true
    · rw [if_pos c1] at h; omega
    · by_cases hvn : v = n
      · subst hvn; simpa using c1
      · exact cn_0 n (by omega) v (by omega)
theorem cn_n {p : Nat → Bool} : ∀ n, cn p n ≤ n
  | 0 => Nat.le_refl _
  | n + 1 => by
    have := cn_n (p := p) n
    unfold cn
    split <;> omega
/-- a round puts at least one more spot right -/
theorem rnd_step {e : Nat → Nat × Nat} {c : Nf} {n goal : Nat} {d f : Nf} (he : okE e n) (hd : isD e c n goal d) (hf : gd d f goal) : cn (fun v => decide (rnd e c f n v ≠ d v)) 8 ≤ cn (fun v => decide (f v ≠ d v)) 8 - 1 := by
  have hg := fun k hk => rnd_gd he hd hf k hk
  have sub : ∀ v, v < 8 → decide (rnd e c f n v ≠ d v) = true → decide (f v ≠ d v) = true := by
    intro v _ h
    have h := of_decide_eq_true h
    refine decide_eq_true (fun q => h ?_)
    have := (hg n (Nat.le_refl _)).2 v
    have := (hg n (Nat.le_refl _)).1.1 v
    omega
  by_cases hall : ∃ v, v < 8 ∧ f v ≠ d v
  · obtain ⟨m, ⟨v, hv, hne, hm⟩, hmin⟩ := pk_least (fun m => ∃ v, v < 8 ∧ f v ≠ d v ∧ d v = m) (by obtain ⟨v, h1, h2⟩ := hall; exact ⟨_, v, h1, h2, rfl⟩)
    subst hm
    have right : ∀ u, u < 8 → d u < d v → f u = d u := fun u hu hlt => Decidable.byContradiction fun q => hmin _ hlt ⟨u, hu, q, rfl⟩
    have hfv := hf.1 v
    have hfv2 := hf.2.1 v
    have new : rnd e c f n v = d v := by
      rcases hd.2.2.2 v with rfl | q | ⟨b, hb, hc, q⟩
      · exact absurd (hf.2.2.trans hd.1.symm) hne
      · omega
      · have g1 := (hg b (by omega)).1
        have g2 := (hg b (by omega)).2
        obtain ⟨he1, he2, hen⟩ := he b hb
        have hb1 : rnd e c f (b + 1) v ≤ d v := by
          rcases q with ⟨rfl, q⟩ | ⟨rfl, q⟩
          · have r1 := right (e b).2 he2 (by omega)
            have := g2 (e b).2
            show rx (rnd e c f b) (e b).1 (e b).2 (c b) (e b).1 ≤ _
            rw [rx_o hen hc]
            omega
          · have r1 := right (e b).1 he1 (by omega)
            have := g2 (e b).1
            show rx (rnd e c f b) (e b).1 (e b).2 (c b) (e b).2 ≤ _
            rw [rx_t hen hc]
            omega
        have := rnd_le (c := c) (f := f) he n (b + 1) (by omega) (Nat.le_refl _) v
        have := (hg n (Nat.le_refl _)).1.1 v
        omega
    have := cn_lt (p := fun v => decide (f v ≠ d v)) (q := fun v => decide (rnd e c f n v ≠ d v)) 8 sub ⟨v, hv, decide_eq_true hne, decide_eq_false (fun q => q new)⟩
    omega
  · have h0 : cn (fun v => decide (f v ≠ d v)) 8 = 0 := by
      have : cn (fun v => decide (f v ≠ d v)) 8 ≤ cn (fun _ => false) 8 := cn_le 8 (fun v hv h => absurd ⟨v, hv, of_decide_eq_true h⟩ hall)
      have : cn (fun _ => false) 8 = 0 := by decide
      omega
    have := cn_le (p := fun v => decide (f v ≠ d v)) (q := fun v => decide (rnd e c f n v ≠ d v)) 8 sub
    omega
theorem rnds_gd {e : Nat → Nat × Nat} {c : Nf} {n goal : Nat} {d f : Nf} (he : okE e n) (hd : isD e c n goal d) (hf : gd d f goal) : ∀ r, gd d (rnds e c n f r) goal ∧ cn (fun v => decide (rnds e c n f r v ≠ d v)) 8 ≤ 8 - r
  | 0 => ⟨hf, cn_n 8⟩
  | r + 1 => by
    obtain ⟨h1, h2⟩ := rnds_gd he hd hf r
    refine ⟨(rnd_gd he hd h1 n (Nat.le_refl _)).1, ?_⟩
    have := rnd_step he hd h1
    show cn (fun v => decide (rnd e c (rnds e c n f r) n v ≠ d v)) 8 ≤ _
    omega
theorem ini_gd {e : Nat → Nat × Nat} {c : Nf} {n goal : Nat} {d : Nf} (hd : isD e c n goal d) : gd d (ini goal) goal := by
  refine ⟨fun v => ?_, fun v => ?_, by unfold ini; rw [if_pos rfl]⟩
  · unfold ini
    by_cases h : v = goal
    · subst h; rw [hd.1]; exact Nat.zero_le _
    · rw [if_neg h]; exact hd.2.1 v
  · unfold ini
    split <;> omega
theorem rnds8 {e : Nat → Nat × Nat} {c : Nf} {n goal : Nat} {d f : Nf} (he : okE e n) (hd : isD e c n goal d) (hf : gd d f goal) {v : Nat} (hv : v < 8) : rnds e c n f 8 v = d v := by
  have h := (rnds_gd he hd hf 8).2
  have := cn_0 (p := fun v => decide (rnds e c n f 8 v ≠ d v)) 8 (by omega) v hv
  exact Decidable.not_not.mp (of_decide_eq_false this)
/-- the least costs to a goal -/
def dst (e : Nat → Nat × Nat) (c : Nf) (n goal : Nat) : Nf := rnds e c n (ini goal) 8
theorem okE_sw {e : Nat → Nat × Nat} {n : Nat} (he : okE e n) : okE (swp e) n := fun b hb => ⟨(he b hb).2.1, (he b hb).1, (he b hb).2.2.symm⟩
theorem dst_sw {e : Nat → Nat × Nat} {c : Nf} {n goal : Nat} (he : okE e n) {v : Nat} (hv : v < 8) : dst (swp e) c n goal v = dst e c n goal v := by
  obtain ⟨d, hd⟩ := isD_ex e c n goal
  unfold dst
  rw [rnds8 he hd (ini_gd hd) hv, rnds8 (okE_sw he) (isD_sw hd) (ini_gd (isD_sw hd)) hv]
/-- a round that changes nothing has the least costs already -/
theorem dst_fix {e : Nat → Nat × Nat} {c : Nf} {n goal r : Nat} (he : okE e n) (hfix : rnd e c (rnds e c n (ini goal) r) n = rnds e c n (ini goal) r) {v : Nat} (hv : v < 8) : rnds e c n (ini goal) r v = dst e c n goal v := by
  obtain ⟨d, hd⟩ := isD_ex e c n goal
  have hg := (rnds_gd he hd (ini_gd hd) r).1
  have stay : ∀ k, rnds e c n (rnds e c n (ini goal) r) k = rnds e c n (ini goal) r := by
    intro k
    induction k with
    | zero => rfl
    | succ k ih => show rnd e c (rnds e c n (rnds e c n (ini goal) r) k) n = _; rw [ih]; exact hfix
  have h1 := rnds8 he hd hg hv
  rw [stay 8] at h1
  unfold dst
  rw [h1, rnds8 he hd (ini_gd hd) hv]
theorem dst_le {e : Nat → Nat × Nat} {c : Nf} {n goal : Nat} (he : okE e n) (v : Nat) : dst e c n goal v ≤ 1000000 := by
  obtain ⟨d, hd⟩ := isD_ex e c n goal
  exact (rnds_gd he hd (ini_gd hd) 8).1.2.1 v
/-- the least of i .. i+k-1 for which p holds -/
def lsq (p : Nat → Bool) (i : Nat) : Nat → Option Nat
  | 0 => none
  | k + 1 => if p i = true then some i else lsq p (i + 1) k
theorem lsq_in {p : Nat → Bool} : ∀ {k i b : Nat}, lsq p i k = some b → i ≤ b ∧ b < i + k ∧ p b = true
  | 0, i, b, h => by cases h
  | k + 1, i, b, h => by
    unfold lsq at h
    by_cases c : p i = true
    · rw [if_pos c] at h; cases h; exact ⟨Nat.le_refl _, by omega, c⟩
    · rw [if_neg c] at h
      have := lsq_in h
      exact ⟨by omega, by omega, this.2.2⟩
end PU3
