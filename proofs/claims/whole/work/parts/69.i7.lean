/-! The constructor of the class: the loops. -/
section PI7
set_option maxRecDepth 100000 in
theorem Bu_Sh0 {g : Geo} (h : Bu 73 g) : Bu 75 (gpR (gpR (galloc (galloc g 3 3) 100 24) (gz g) 2 (some (gz g + 1))) 70 0 (some (gz g))) := by
  have hz := h.1
  rw [hz]
  refine Bu_st h (fun i hi => ⟨?_, ?_⟩) ?_ (fun j hj => ?_) (fun j hj k => ?_) (by omega) (by omega) (by omega) rfl (by decide)
  · simp (disch := omega) only [gk_al, gk_p, gR_al, gR_p, gz_al, gz_p, hz, va_here, va_up_ne, ne_eq]
  · simp (disch := omega) only [gk_al, gk_p, gR_al, gR_p, gz_al, gz_p, hz, va_here, va_up_ne, ne_eq]
  · simp only [gz_al, gz_p, hz]
  · obtain rfl | rfl : j = 0 ∨ j = 1 := by omega
    all_goals (simp (disch := omega) only [gk_al, gk_p, gR_al, gR_p, gz_al, gz_p, hz, va_here, va_up_ne, ne_eq]; rfl)
  · obtain rfl | rfl : j = 0 ∨ j = 1 := by omega
    · rw [R0_fn (i := 73 + 0) (F := (va_up (fun _ => none) 2 (some 74))) (by omega) (by decide) (fun k hk => by simp (disch := omega) only [va_up_ne, ne_eq]) k]
      simp (disch := omega) only [gk_al, gk_p, gR_al, gR_p, gz_al, gz_p, hz, va_here, va_up_ne, ne_eq]
    · rw [R0_fn (i := 73 + 1) (F := (fun _ => none)) (by omega) (by decide) (fun _ _ => rfl) k]
      simp (disch := omega) only [gk_al, gk_p, gR_al, gR_p, gz_al, gz_p, hz, va_here, va_up_ne, ne_eq]
set_option maxRecDepth 100000 in
theorem Bu_Sh1 {g : Geo} (h : Bu 75 g) : Bu 77 (gpR (gpR (galloc (galloc g 3 3) 100 24) (gz g) 2 (some (gz g + 1))) 70 1 (some (gz g))) := by
  have hz := h.1
  rw [hz]
  refine Bu_st h (fun i hi => ⟨?_, ?_⟩) ?_ (fun j hj => ?_) (fun j hj k => ?_) (by omega) (by omega) (by omega) rfl (by decide)
  · simp (disch := omega) only [gk_al, gk_p, gR_al, gR_p, gz_al, gz_p, hz, va_here, va_up_ne, ne_eq]
  · simp (disch := omega) only [gk_al, gk_p, gR_al, gR_p, gz_al, gz_p, hz, va_here, va_up_ne, ne_eq]
  · simp only [gz_al, gz_p, hz]
  · obtain rfl | rfl : j = 0 ∨ j = 1 := by omega
    all_goals (simp (disch := omega) only [gk_al, gk_p, gR_al, gR_p, gz_al, gz_p, hz, va_here, va_up_ne, ne_eq]; rfl)
  · obtain rfl | rfl : j = 0 ∨ j = 1 := by omega
    · rw [R0_fn (i := 75 + 0) (F := (va_up (fun _ => none) 2 (some 76))) (by omega) (by decide) (fun k hk => by simp (disch := omega) only [va_up_ne, ne_eq]) k]
      simp (disch := omega) only [gk_al, gk_p, gR_al, gR_p, gz_al, gz_p, hz, va_here, va_up_ne, ne_eq]
    · rw [R0_fn (i := 75 + 1) (F := (fun _ => none)) (by omega) (by decide) (fun _ _ => rfl) k]
      simp (disch := omega) only [gk_al, gk_p, gR_al, gR_p, gz_al, gz_p, hz, va_here, va_up_ne, ne_eq]
set_option maxRecDepth 100000 in
theorem Bu_Sh2 {g : Geo} (h : Bu 77 g) : Bu 79 (gpR (gpR (galloc (galloc g 3 3) 100 24) (gz g) 2 (some (gz g + 1))) 70 2 (some (gz g))) := by
  have hz := h.1
  rw [hz]
  refine Bu_st h (fun i hi => ⟨?_, ?_⟩) ?_ (fun j hj => ?_) (fun j hj k => ?_) (by omega) (by omega) (by omega) rfl (by decide)
  · simp (disch := omega) only [gk_al, gk_p, gR_al, gR_p, gz_al, gz_p, hz, va_here, va_up_ne, ne_eq]
  · simp (disch := omega) only [gk_al, gk_p, gR_al, gR_p, gz_al, gz_p, hz, va_here, va_up_ne, ne_eq]
  · simp only [gz_al, gz_p, hz]
  · obtain rfl | rfl : j = 0 ∨ j = 1 := by omega
    all_goals (simp (disch := omega) only [gk_al, gk_p, gR_al, gR_p, gz_al, gz_p, hz, va_here, va_up_ne, ne_eq]; rfl)
  · obtain rfl | rfl : j = 0 ∨ j = 1 := by omega
    · rw [R0_fn (i := 77 + 0) (F := (va_up (fun _ => none) 2 (some 78))) (by omega) (by decide) (fun k hk => by simp (disch := omega) only [va_up_ne, ne_eq]) k]
      simp (disch := omega) only [gk_al, gk_p, gR_al, gR_p, gz_al, gz_p, hz, va_here, va_up_ne, ne_eq]
    · rw [R0_fn (i := 77 + 1) (F := (fun _ => none)) (by omega) (by decide) (fun _ _ => rfl) k]
      simp (disch := omega) only [gk_al, gk_p, gR_al, gR_p, gz_al, gz_p, hz, va_here, va_up_ne, ne_eq]
set_option maxRecDepth 100000 in
theorem Bu_Sh3 {g : Geo} (h : Bu 79 g) : Bu 81 (gpR (gpR (galloc (galloc g 3 3) 100 24) (gz g) 2 (some (gz g + 1))) 70 3 (some (gz g))) := by
  have hz := h.1
  rw [hz]
  refine Bu_st h (fun i hi => ⟨?_, ?_⟩) ?_ (fun j hj => ?_) (fun j hj k => ?_) (by omega) (by omega) (by omega) rfl (by decide)
  · simp (disch := omega) only [gk_al, gk_p, gR_al, gR_p, gz_al, gz_p, hz, va_here, va_up_ne, ne_eq]
  · simp (disch := omega) only [gk_al, gk_p, gR_al, gR_p, gz_al, gz_p, hz, va_here, va_up_ne, ne_eq]
  · simp only [gz_al, gz_p, hz]
  · obtain rfl | rfl : j = 0 ∨ j = 1 := by omega
    all_goals (simp (disch := omega) only [gk_al, gk_p, gR_al, gR_p, gz_al, gz_p, hz, va_here, va_up_ne, ne_eq]; rfl)
  · obtain rfl | rfl : j = 0 ∨ j = 1 := by omega
    · rw [R0_fn (i := 79 + 0) (F := (va_up (fun _ => none) 2 (some 80))) (by omega) (by decide) (fun k hk => by simp (disch := omega) only [va_up_ne, ne_eq]) k]
      simp (disch := omega) only [gk_al, gk_p, gR_al, gR_p, gz_al, gz_p, hz, va_here, va_up_ne, ne_eq]
    · rw [R0_fn (i := 79 + 1) (F := (fun _ => none)) (by omega) (by decide) (fun _ _ => rfl) k]
      simp (disch := omega) only [gk_al, gk_p, gR_al, gR_p, gz_al, gz_p, hz, va_here, va_up_ne, ne_eq]
set_option maxRecDepth 100000 in
theorem Bu_Sl0 {g : Geo} (h : Bu 81 g) : Bu 85 (gpR (slG (galloc g 4 4) (gz g)) 71 0 (some (gz g))) := by
  have hz := h.1
  unfold slG
  simp only [gz_al, gz_p]
  rw [hz]
  refine Bu_st h (fun i hi => ⟨?_, ?_⟩) ?_ (fun j hj => ?_) (fun j hj k => ?_) (by omega) (by omega) (by omega) rfl (by decide)
  · simp (disch := omega) only [gk_al, gk_p, gR_al, gR_p, gz_al, gz_p, hz, va_here, va_up_ne, ne_eq]
  · simp (disch := omega) only [gk_al, gk_p, gR_al, gR_p, gz_al, gz_p, hz, va_here, va_up_ne, ne_eq]
  · simp only [gz_al, gz_p, hz]
  · obtain rfl | rfl | rfl | rfl : j = 0 ∨ j = 1 ∨ j = 2 ∨ j = 3 := by omega
    all_goals (simp (disch := omega) only [gk_al, gk_p, gR_al, gR_p, gz_al, gz_p, hz, va_here, va_up_ne, ne_eq]; rfl)
  · obtain rfl | rfl | rfl | rfl : j = 0 ∨ j = 1 ∨ j = 2 ∨ j = 3 := by omega
    · rw [R0_fn (i := 81 + 0) (F := (va_up (va_up (fun _ => none) 1 (some 82)) 2 (some 83))) (by omega) (by decide) (fun k hk => by simp (disch := omega) only [va_up_ne, ne_eq]) k]
      simp (disch := omega) only [gk_al, gk_p, gR_al, gR_p, gz_al, gz_p, hz, va_here, va_up_ne, ne_eq]
    · rw [R0_fn (i := 81 + 1) (F := (fun _ => none)) (by omega) (by decide) (fun _ _ => rfl) k]
      simp (disch := omega) only [gk_al, gk_p, gR_al, gR_p, gz_al, gz_p, hz, va_here, va_up_ne, ne_eq]
    · rw [R0_fn (i := 81 + 2) (F := (va_up (fun _ => none) 2 (some 84))) (by omega) (by decide) (fun k hk => by simp (disch := omega) only [va_up_ne, ne_eq]) k]
      simp (disch := omega) only [gk_al, gk_p, gR_al, gR_p, gz_al, gz_p, hz, va_here, va_up_ne, ne_eq]
    · rw [R0_fn (i := 81 + 3) (F := (fun _ => none)) (by omega) (by decide) (fun _ _ => rfl) k]
      simp (disch := omega) only [gk_al, gk_p, gR_al, gR_p, gz_al, gz_p, hz, va_here, va_up_ne, ne_eq]
set_option maxRecDepth 100000 in
theorem Bu_Sl1 {g : Geo} (h : Bu 85 g) : Bu 89 (gpR (slG (galloc g 4 4) (gz g)) 71 1 (some (gz g))) := by
  have hz := h.1
  unfold slG
  simp only [gz_al, gz_p]
  rw [hz]
  refine Bu_st h (fun i hi => ⟨?_, ?_⟩) ?_ (fun j hj => ?_) (fun j hj k => ?_) (by omega) (by omega) (by omega) rfl (by decide)
  · simp (disch := omega) only [gk_al, gk_p, gR_al, gR_p, gz_al, gz_p, hz, va_here, va_up_ne, ne_eq]
  · simp (disch := omega) only [gk_al, gk_p, gR_al, gR_p, gz_al, gz_p, hz, va_here, va_up_ne, ne_eq]
  · simp only [gz_al, gz_p, hz]
  · obtain rfl | rfl | rfl | rfl : j = 0 ∨ j = 1 ∨ j = 2 ∨ j = 3 := by omega
    all_goals (simp (disch := omega) only [gk_al, gk_p, gR_al, gR_p, gz_al, gz_p, hz, va_here, va_up_ne, ne_eq]; rfl)
  · obtain rfl | rfl | rfl | rfl : j = 0 ∨ j = 1 ∨ j = 2 ∨ j = 3 := by omega
    · rw [R0_fn (i := 85 + 0) (F := (va_up (va_up (fun _ => none) 1 (some 86)) 2 (some 87))) (by omega) (by decide) (fun k hk => by simp (disch := omega) only [va_up_ne, ne_eq]) k]
      simp (disch := omega) only [gk_al, gk_p, gR_al, gR_p, gz_al, gz_p, hz, va_here, va_up_ne, ne_eq]
    · rw [R0_fn (i := 85 + 1) (F := (fun _ => none)) (by omega) (by decide) (fun _ _ => rfl) k]
      simp (disch := omega) only [gk_al, gk_p, gR_al, gR_p, gz_al, gz_p, hz, va_here, va_up_ne, ne_eq]
    · rw [R0_fn (i := 85 + 2) (F := (va_up (fun _ => none) 2 (some 88))) (by omega) (by decide) (fun k hk => by simp (disch := omega) only [va_up_ne, ne_eq]) k]
      simp (disch := omega) only [gk_al, gk_p, gR_al, gR_p, gz_al, gz_p, hz, va_here, va_up_ne, ne_eq]
    · rw [R0_fn (i := 85 + 3) (F := (fun _ => none)) (by omega) (by decide) (fun _ _ => rfl) k]
      simp (disch := omega) only [gk_al, gk_p, gR_al, gR_p, gz_al, gz_p, hz, va_here, va_up_ne, ne_eq]
set_option maxRecDepth 100000 in
theorem Bu_Sl2 {g : Geo} (h : Bu 89 g) : Bu 93 (gpR (slG (galloc g 4 4) (gz g)) 71 2 (some (gz g))) := by
  have hz := h.1
  unfold slG
  simp only [gz_al, gz_p]
  rw [hz]
  refine Bu_st h (fun i hi => ⟨?_, ?_⟩) ?_ (fun j hj => ?_) (fun j hj k => ?_) (by omega) (by omega) (by omega) rfl (by decide)
  · simp (disch := omega) only [gk_al, gk_p, gR_al, gR_p, gz_al, gz_p, hz, va_here, va_up_ne, ne_eq]
  · simp (disch := omega) only [gk_al, gk_p, gR_al, gR_p, gz_al, gz_p, hz, va_here, va_up_ne, ne_eq]
  · simp only [gz_al, gz_p, hz]
  · obtain rfl | rfl | rfl | rfl : j = 0 ∨ j = 1 ∨ j = 2 ∨ j = 3 := by omega
    all_goals (simp (disch := omega) only [gk_al, gk_p, gR_al, gR_p, gz_al, gz_p, hz, va_here, va_up_ne, ne_eq]; rfl)
  · obtain rfl | rfl | rfl | rfl : j = 0 ∨ j = 1 ∨ j = 2 ∨ j = 3 := by omega
    · rw [R0_fn (i := 89 + 0) (F := (va_up (va_up (fun _ => none) 1 (some 90)) 2 (some 91))) (by omega) (by decide) (fun k hk => by simp (disch := omega) only [va_up_ne, ne_eq]) k]
      simp (disch := omega) only [gk_al, gk_p, gR_al, gR_p, gz_al, gz_p, hz, va_here, va_up_ne, ne_eq]
    · rw [R0_fn (i := 89 + 1) (F := (fun _ => none)) (by omega) (by decide) (fun _ _ => rfl) k]
      simp (disch := omega) only [gk_al, gk_p, gR_al, gR_p, gz_al, gz_p, hz, va_here, va_up_ne, ne_eq]
    · rw [R0_fn (i := 89 + 2) (F := (va_up (fun _ => none) 2 (some 92))) (by omega) (by decide) (fun k hk => by simp (disch := omega) only [va_up_ne, ne_eq]) k]
      simp (disch := omega) only [gk_al, gk_p, gR_al, gR_p, gz_al, gz_p, hz, va_here, va_up_ne, ne_eq]
    · rw [R0_fn (i := 89 + 3) (F := (fun _ => none)) (by omega) (by decide) (fun _ _ => rfl) k]
      simp (disch := omega) only [gk_al, gk_p, gR_al, gR_p, gz_al, gz_p, hz, va_here, va_up_ne, ne_eq]
set_option maxRecDepth 100000 in
theorem Bu_Sl3 {g : Geo} (h : Bu 93 g) : Bu 97 (gpR (slG (galloc g 4 4) (gz g)) 71 3 (some (gz g))) := by
  have hz := h.1
  unfold slG
  simp only [gz_al, gz_p]
  rw [hz]
  refine Bu_st h (fun i hi => ⟨?_, ?_⟩) ?_ (fun j hj => ?_) (fun j hj k => ?_) (by omega) (by omega) (by omega) rfl (by decide)
  · simp (disch := omega) only [gk_al, gk_p, gR_al, gR_p, gz_al, gz_p, hz, va_here, va_up_ne, ne_eq]
  · simp (disch := omega) only [gk_al, gk_p, gR_al, gR_p, gz_al, gz_p, hz, va_here, va_up_ne, ne_eq]
  · simp only [gz_al, gz_p, hz]
  · obtain rfl | rfl | rfl | rfl : j = 0 ∨ j = 1 ∨ j = 2 ∨ j = 3 := by omega
    all_goals (simp (disch := omega) only [gk_al, gk_p, gR_al, gR_p, gz_al, gz_p, hz, va_here, va_up_ne, ne_eq]; rfl)
  · obtain rfl | rfl | rfl | rfl : j = 0 ∨ j = 1 ∨ j = 2 ∨ j = 3 := by omega
    · rw [R0_fn (i := 93 + 0) (F := (va_up (va_up (fun _ => none) 1 (some 94)) 2 (some 95))) (by omega) (by decide) (fun k hk => by simp (disch := omega) only [va_up_ne, ne_eq]) k]
      simp (disch := omega) only [gk_al, gk_p, gR_al, gR_p, gz_al, gz_p, hz, va_here, va_up_ne, ne_eq]
    · rw [R0_fn (i := 93 + 1) (F := (fun _ => none)) (by omega) (by decide) (fun _ _ => rfl) k]
      simp (disch := omega) only [gk_al, gk_p, gR_al, gR_p, gz_al, gz_p, hz, va_here, va_up_ne, ne_eq]
    · rw [R0_fn (i := 93 + 2) (F := (va_up (fun _ => none) 2 (some 96))) (by omega) (by decide) (fun k hk => by simp (disch := omega) only [va_up_ne, ne_eq]) k]
      simp (disch := omega) only [gk_al, gk_p, gR_al, gR_p, gz_al, gz_p, hz, va_here, va_up_ne, ne_eq]
    · rw [R0_fn (i := 93 + 3) (F := (fun _ => none)) (by omega) (by decide) (fun _ _ => rfl) k]
      simp (disch := omega) only [gk_al, gk_p, gR_al, gR_p, gz_al, gz_p, hz, va_here, va_up_ne, ne_eq]
set_option maxRecDepth 100000 in
theorem Bu_Sl4 {g : Geo} (h : Bu 97 g) : Bu 101 (gpR (slG (galloc g 4 4) (gz g)) 71 4 (some (gz g))) := by
  have hz := h.1
  unfold slG
  simp only [gz_al, gz_p]
  rw [hz]
  refine Bu_st h (fun i hi => ⟨?_, ?_⟩) ?_ (fun j hj => ?_) (fun j hj k => ?_) (by omega) (by omega) (by omega) rfl (by decide)
  · simp (disch := omega) only [gk_al, gk_p, gR_al, gR_p, gz_al, gz_p, hz, va_here, va_up_ne, ne_eq]
  · simp (disch := omega) only [gk_al, gk_p, gR_al, gR_p, gz_al, gz_p, hz, va_here, va_up_ne, ne_eq]
  · simp only [gz_al, gz_p, hz]
  · obtain rfl | rfl | rfl | rfl : j = 0 ∨ j = 1 ∨ j = 2 ∨ j = 3 := by omega
    all_goals (simp (disch := omega) only [gk_al, gk_p, gR_al, gR_p, gz_al, gz_p, hz, va_here, va_up_ne, ne_eq]; rfl)
  · obtain rfl | rfl | rfl | rfl : j = 0 ∨ j = 1 ∨ j = 2 ∨ j = 3 := by omega
    · rw [R0_fn (i := 97 + 0) (F := (va_up (va_up (fun _ => none) 1 (some 98)) 2 (some 99))) (by omega) (by decide) (fun k hk => by simp (disch := omega) only [va_up_ne, ne_eq]) k]
      simp (disch := omega) only [gk_al, gk_p, gR_al, gR_p, gz_al, gz_p, hz, va_here, va_up_ne, ne_eq]
    · rw [R0_fn (i := 97 + 1) (F := (fun _ => none)) (by omega) (by decide) (fun _ _ => rfl) k]
      simp (disch := omega) only [gk_al, gk_p, gR_al, gR_p, gz_al, gz_p, hz, va_here, va_up_ne, ne_eq]
    · rw [R0_fn (i := 97 + 2) (F := (va_up (fun _ => none) 2 (some 100))) (by omega) (by decide) (fun k hk => by simp (disch := omega) only [va_up_ne, ne_eq]) k]
      simp (disch := omega) only [gk_al, gk_p, gR_al, gR_p, gz_al, gz_p, hz, va_here, va_up_ne, ne_eq]
    · rw [R0_fn (i := 97 + 3) (F := (fun _ => none)) (by omega) (by decide) (fun _ _ => rfl) k]
      simp (disch := omega) only [gk_al, gk_p, gR_al, gR_p, gz_al, gz_p, hz, va_here, va_up_ne, ne_eq]
theorem Bu_Sh {s : Nat} {g : Geo} (hs : s < 4) (h : Bu (73 + 2 * s) g) : Bu (73 + 2 * (s + 1)) (gpR (gpR (galloc (galloc g 3 3) 100 24) (gz g) 2 (some (gz g + 1))) 70 s (some (gz g))) := by
  obtain rfl | rfl | rfl | rfl : s = 0 ∨ s = 1 ∨ s = 2 ∨ s = 3 := by omega
  · exact Bu_Sh0 h
  · exact Bu_Sh1 h
  · exact Bu_Sh2 h
  · exact Bu_Sh3 h
theorem Bu_Sl {s : Nat} {g : Geo} (hs : s < 5) (h : Bu (81 + 4 * s) g) : Bu (81 + 4 * (s + 1)) (gpR (slG (galloc g 4 4) (gz g)) 71 s (some (gz g))) := by
  obtain rfl | rfl | rfl | rfl | rfl : s = 0 ∨ s = 1 ∨ s = 2 ∨ s = 3 ∨ s = 4 := by omega
  · exact Bu_Sl0 h
  · exact Bu_Sl1 h
  · exact Bu_Sl2 h
  · exact Bu_Sl3 h
  · exact Bu_Sl4 h
end PI7
