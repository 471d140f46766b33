/-! The invariant of the law, and its start. -/
section INV
/-- the class's side -/
def CI (g : Geo) (I : IM) (N M So Si Pl Th He Wt T : Row) (n tn n2 tn2 w z : Nat) (kept : Bool) : Prop := LaR g I 1 N n tn ∧ I 0 2 = nI (if kept = true then 1 else 0) ∧ (kept = true → LaR g I 21 M n2 tn2) ∧ CS I So Si Pl ∧ CH I Th He ∧ CW I Wt w ∧ CT I T z
/-- the model's side -/
def MI (I : IM) (N M So Si Pl Th He Wt T : Row) (w z : Nat) (kept : Bool) : Prop := I 102 = N ∧ I 103 = M ∧ I 101 2 = nI (if kept = true then 1 else 0) ∧ I 114 = So ∧ I 115 = Si ∧ I 116 = Pl ∧ I 118 = Th ∧ I 119 = He ∧ I 120 = Wt ∧ I 101 30 = nI w ∧ I 108 = T ∧ I 101 8 = nI z
/-- the rows are in order -/
def OI (N M So Si Th He T : Row) (n tn n2 tn2 w z : Nat) (kept : Bool) : Prop := okL N n tn ∧ okW N ∧ (kept = true → okL M n2 tn2 ∧ okW M) ∧ okS So Si ∧ okH Th He ∧ okTp T z ∧ w ≤ 60 ∧ ∀ k, 1556 ≤ k → N k = M k
/-- the heap after c calls -/
def HI (c : Nat) (G g : Geo) : Prop := GeoOK g ∧ g.1 = G.1 ∧ gz g ≤ 121 + 3 * c ∧ gz g % 3 = 1 ∧ gs g ≤ gs G + 42000 + 200 * c
def Inv (c : Nat) (G g : Geo) (I : IM) : Prop := ∃ (N M So Si Pl Th He Wt T : Row) (n tn n2 tn2 w z : Nat) (kept : Bool), HI c G g ∧ CI g I N M So Si Pl Th He Wt T n tn n2 tn2 w z kept ∧ MI I N M So Si Pl Th He Wt T w z kept ∧ OI N M So Si Th He T n tn n2 tn2 w z kept
def N0 : Row := va_up (va_up (fun _ => 0) 0 (nI 1)) 4 (nI 20)
theorem N0_0 {k : Nat} (h : k ≠ 0) (h4 : k ≠ 4) : N0 k = nI 0 := by
  unfold N0
  rw [va_up_ne _ _ h4, va_up_ne _ _ h]
  rfl
theorem Inv0 {G g1 g2 : Geo} {I1 J : IM} (h : S0 G g1 I1) (B : Bm 121 g2) (e : g2.1 = g1.1) (s : gs g2 ≤ gs g1 + 40000) (z : MZ 121 (va_up I1 101 fun _ => 0) J) : Inv 0 G g2 (pI (pI J 102 0 (nI 1)) 102 4 (nI 20)) := by
  obtain ⟨b1, f1, s1, u1, u2, u3, v1, v2, v3⟩ := h
  have hz := B.1
  have e102 : pI (pI J 102 0 (nI 1)) 102 4 (nI 20) 102 = N0 := by
    unfold pI N0
    rw [va_up_self, va_up_self, z.2.1 102 (by omega) (by omega) (by omega)]
  have eI : ∀ i, i < 101 → pI (pI J 102 0 (nI 1)) 102 4 (nI 20) i = I1 i := fun i hi => by
    rw [pI_rw (by omega), pI_rw (by omega), z.1 i (by omega), va_up_ne _ _ (by omega)]
  have e101 : pI (pI J 102 0 (nI 1)) 102 4 (nI 20) 101 = fun _ => 0 := by
    rw [pI_rw (by omega), pI_rw (by omega), z.1 101 (by omega), va_up_self]
  have eZ : ∀ i, 103 ≤ i → i < 121 → i ≠ 114 → pI (pI J 102 0 (nI 1)) 102 4 (nI 20) i = fun _ => 0 := fun i h1 h2 h3 => by
    rw [pI_rw (by omega), pI_rw (by omega), z.2.1 i (by omega) (by omega) h3]
  have e114 : ∀ s, s < 4 → pI (pI J 102 0 (nI 1)) 102 4 (nI 20) 114 s = -1 := fun s hs => by
    rw [pI_rw (by omega), pI_rw (by omega), z.2.2 (by omega) s hs]
  generalize pI (pI J 102 0 (nI 1)) 102 4 (nI 20) = Y at *
  have v4 : VLd 1 Y := VLd_to v1 fun i _ h2 => eI i (by omega)
  obtain ⟨⟨q1, q2, q3, q4, q5, q6, q8⟩, r1, ⟨p0, p1, p2, p3, p4⟩⟩ := v4
  refine ⟨N0, fun _ => 0, Y 114, fun _ => 0, fun _ => 0, fun _ => 0, fun _ => 0, fun _ => 0, fun _ => 0, 0, 0, 0, 0, 0, 0, false, ⟨Bm_ok B, e.trans f1, by omega, by omega, by omega⟩, ⟨⟨⟨fun key hk => ?_, q8, fun t ht => by omega⟩, ⟨q1, ?_, ?_, fun b hb => by omega⟩, ⟨?_, ?_, ?_, ?_, ?_, fun i hi => ?_⟩, ⟨?_, ?_, ?_⟩⟩, ?_, fun q => (by cases q), fun s hs => ?_, fun s hs => ?_, ⟨?_, fun k hk => by omega⟩, ⟨?_, fun k hk => by omega⟩⟩, ⟨e102, eZ 103 (by omega) (by omega) (by omega), ?_, rfl, eZ 115 (by omega) (by omega) (by omega), eZ 116 (by omega) (by omega) (by omega), eZ 118 (by omega) (by omega) (by omega), eZ 119 (by omega) (by omega) (by omega), eZ 120 (by omega) (by omega) (by omega), ?_, eZ 108 (by omega) (by omega) (by omega), ?_⟩, ⟨⟨?_, by omega, ?_, by omega, fun b hb => by omega, fun t ht => by omega, Or.inl ?_, 20, ?_, by omega, by omega⟩, ⟨0, by omega, ?_, Or.inl ⟨?_, rfl⟩, fun i hi => by omega⟩, fun q => (by cases q), fun s hs => Or.inl ⟨e114 s hs, rfl⟩, fun s hs => Or.inl rfl, ⟨by omega, fun k hk => by omega⟩, by omega, fun k hk => ?_⟩⟩
  · rw [r1 key hk]; rfl
  · rw [q2]; exact (N0_0 (by omega) (by omega)).symm
  · rw [q3]; rfl
  · rw [p0]; exact (N0_0 (by omega) (by omega)).symm
  · rw [p1]; exact (N0_0 (by omega) (by omega)).symm
  · rw [p2]; exact (N0_0 (by omega) (by omega)).symm
  · rw [p3]; exact (N0_0 (by omega) (by omega)).symm
  · rw [p4]; exact (N0_0 (by omega) (by omega)).symm
  · rw [N0_0 (by omega) (by omega), show (nI 0).toNatClampNeg = 0 from by decide] at hi
    omega
  · rw [q4]; exact (N0_0 (by omega) (by omega)).symm
  · rw [q5]; exact (N0_0 (by omega) (by omega)).symm
  · rw [q6]; rfl
  · rw [eI 0 (by omega), u1]; rfl
  · have q := v2 s hs
    unfold SHz at q
    rw [eI (73 + 2 * s) (by omega), eI (74 + 2 * s) (by omega)]
    exact ⟨q.1.trans (e114 s hs).symm, q.2.1, q.2.2⟩
  · unfold CH1
    rw [eI (81 + 4 * s) (by omega)]
    exact ⟨v3 s hs, fun q => absurd (show (0 : Int32) = nI 1 from q) (by decide), fun q => absurd (show (0 : Int32) = nI 2 from q) (by decide), fun q => absurd (show (0 : Int32) = nI 3 from q) (by decide)⟩
  · rw [eI 0 (by omega), u2]
  · rw [eI 67 (by omega), u3]
  · rw [e101]; rfl
  · rw [e101]; rfl
  · rw [e101]; rfl
  · exact N0_0 (by omega) (by omega)
  · exact N0_0 (by omega) (by omega)
  · exact N0_0 (by omega) (by omega)
  · rfl
  · exact N0_0 (by omega) (by omega)
  · exact N0_0 (by omega) (by omega)
  · exact N0_0 (by omega) (by omega)
end INV
