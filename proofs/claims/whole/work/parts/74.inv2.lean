/-! The invariant: what stays when the class or the model moves. -/
section INV2
variable {g g' : Geo} {I J : IM} {N M So Si Pl Th He Wt T : Row} {n tn n2 tn2 w z : Nat} {kept : Bool}
theorem MI_fr {P : Nat → Prop} (h : MI I N M So Si Pl Th He Wt T w z kept) (hf : fre P I J) (hP : ∀ i, 101 ≤ i → i < 121 → ¬ P i) : MI J N M So Si Pl Th He Wt T w z kept := by
  unfold MI at *
  rw [hf 101 (hP _ (by omega) (by omega)), hf 102 (hP _ (by omega) (by omega)), hf 103 (hP _ (by omega) (by omega)), hf 108 (hP _ (by omega) (by omega)), hf 114 (hP _ (by omega) (by omega)), hf 115 (hP _ (by omega) (by omega)), hf 116 (hP _ (by omega) (by omega)), hf 118 (hP _ (by omega) (by omega)), hf 119 (hP _ (by omega) (by omega)), hf 120 (hP _ (by omega) (by omega))]
  exact h
/-- the class moves in its land 1 and where it thinks ahead: the rest stays -/
theorem CI_fr {N' : Row} {n' tn' r : Nat} {P : Nat → Prop} (h : CI g I N M So Si Pl Th He Wt T n tn n2 tn2 w z kept) (h14 : kept = true → n2 ≤ 14) (hG : GS r g g') (hr : r < 121) (h23 : r ≠ 23) (hf : fre P I J) (hP : ∀ i, P i → lnd 1 i ∨ tf i) (hL : LaR g' J 1 N' n' tn') : CI g' J N' M So Si Pl Th He Wt T n' tn' n2 tn2 w z kept := by
  obtain ⟨_, c2, c3, c4, c5, c6, c7⟩ := h
  have q : ∀ i, i < 121 → (i < 1 ∨ (21 ≤ i ∧ i < 41) ∨ i = 63 ∨ 66 ≤ i) → ¬ P i := fun i h1 h2 h3 => by
    have h4 := hP i h3
    unfold tf wf1 lnd stk at h4
    omega
  have q2 : ∀ i, P i → i < 121 ∨ stk i := fun i h3 => by
    have h4 := hP i h3
    unfold tf wf1 lnd at h4
    unfold stk at *
    omega
  refine ⟨hL, ?_, fun k => LR_fr (c3 k) (h14 k) hG hr (by omega) hf (fun i hi => q i (by unfold lnd at hi; omega) (by unfold lnd at hi; omega)) q2, CS_fr c4 hf (fun i hi => q i (by unfold shf at hi; omega) (by unfold shf at hi; omega)), CH_fr c5 hf (fun i hi => q i (by unfold slf at hi; omega) (by unfold slf at hi; omega)), ?_, ?_⟩
  · rw [hf 0 (q 0 (by omega) (by omega))]; exact c2
  · unfold CW at *
    rw [hf 0 (q 0 (by omega) (by omega)), hf 72 (q 72 (by omega) (by omega))]
    exact c6
  · unfold CT at *
    rw [hf 67 (q 67 (by omega) (by omega)), hf 68 (q 68 (by omega) (by omega))]
    exact c7
/-- the model moves: the class stays -/
theorem CI_mo (h : CI g I N M So Si Pl Th He Wt T n tn n2 tn2 w z kept) (hn : n ≤ 14) (h14 : kept = true → n2 ≤ 14) (hf : fre (fun i => 101 ≤ i ∧ i < 121) I J) : CI g J N M So Si Pl Th He Wt T n tn n2 tn2 w z kept := by
  obtain ⟨c1, c2, c3, c4, c5, c6, c7⟩ := h
  refine ⟨LR_fr (r := 43) c1 hn GS_rf (by omega) (by omega) hf (fun i hi => by unfold lnd at hi; omega) (fun i hi => Or.inl hi.2), ?_, fun k => LR_fr (r := 43) (c3 k) (h14 k) GS_rf (by omega) (by omega) hf (fun i hi => by unfold lnd at hi; omega) (fun i hi => Or.inl hi.2), CS_fr c4 hf (fun i hi => by unfold shf at hi; omega), CH_fr c5 hf (fun i hi => by unfold slf at hi; omega), ?_, ?_⟩
  · rw [hf 0 (by omega)]; exact c2
  · unfold CW at *
    rw [hf 0 (by omega), hf 72 (by omega)]
    exact c6
  · unfold CT at *
    rw [hf 67 (by omega), hf 68 (by omega)]
    exact c7
theorem eqx_fre {S : List Nat} (h : eqx S I J) (hS : ∀ i, i ∈ S → 101 ≤ i ∧ i < 121) : fre (fun i => 101 ≤ i ∧ i < 121) I J := fun i hi => h i (fun q => hi (hS i q))
/-- a heap of the same cells -/
theorem HI_GS {c r : Nat} {G : Geo} (h : HI c G g) (hG : GeoOK g') (hs : GS r g g') : HI (c + 1) G g' := ⟨hG, hs.1.trans h.2.1, by have := h.2.2.1; have := hs.2.2.1; omega, by have := h.2.2.2.1; have := hs.2.2.1; omega, by have := h.2.2.2.2; have := hs.2.2.2.1; omega⟩
theorem HI_s {c : Nat} {G : Geo} (h : HI c G g) : HI (c + 1) G g := HI_GS (r := 43) h h.1 GS_rf
end INV2
