/-! ===== the bounds under a write ===== -/
theorem kB_p0 {σ : kS} {j v : Nat} (h : kB σ) (hv : v ≤ 102400) : kB (ku σ 0 0 v) := by
  obtain ⟨h0, h1, h2, h3, h4, h5, h6, h7, h8, h9, h10, h11⟩ := h
  exact ⟨(by rw [ku_s]; exact hv),
    (by rw [ku_f _ _ _ _ (by decide)]; exact h1),
    (by rw [ku_f _ _ _ _ (by decide)]; exact h2),
    (by rw [ku_f _ _ _ _ (by decide)]; exact h3),
    (by rw [ku_f _ _ _ _ (by decide)]; exact h4),
    (by rw [ku_f _ _ _ _ (by decide)]; exact h5),
    (by rw [ku_f _ _ _ _ (by decide)]; exact h6),
    (fun c hc => by
      have hc2 : c < σ 1 0 := by rw [ku_f _ _ _ _ (by decide)] at hc; exact hc
      have h := h7 c hc2
      have e11 : ku σ 0 0 v 11 c = σ 11 c := ku_f _ _ _ _ (by decide)
      have e10 : ku σ 0 0 v 10 c = σ 10 c := ku_f _ _ _ _ (by decide)
      omega),
    (fun c hc => by
      have hc2 : c < σ 2 0 := by rw [ku_f _ _ _ _ (by decide)] at hc; exact hc
      have h := h8 c hc2
      have e20 : ku σ 0 0 v 20 c = σ 20 c := ku_f _ _ _ _ (by decide)
      have e21 : ku σ 0 0 v 21 c = σ 21 c := ku_f _ _ _ _ (by decide)
      have e22 : ku σ 0 0 v 22 c = σ 22 c := ku_f _ _ _ _ (by decide)
      have e23 : ku σ 0 0 v 23 c = σ 23 c := ku_f _ _ _ _ (by decide)
      have e24 : ku σ 0 0 v 24 c = σ 24 c := ku_f _ _ _ _ (by decide)
      have e30 : ku σ 0 0 v 30 c = σ 30 c := ku_f _ _ _ _ (by decide)
      have e25 : ku σ 0 0 v 25 c = σ 25 c := ku_f _ _ _ _ (by decide)
      have e4 : ku σ 0 0 v 4 0 = σ 4 0 := ku_f _ _ _ _ (by decide)
      omega),
    (fun c r hc hr => by
      have hc2 : c < σ 2 0 := by rw [ku_f _ _ _ _ (by decide)] at hc; exact hc
      have h := h9 c r hc2 hr
      have e31 : ku σ 0 0 v 31 (6 * c + r) = σ 31 (6 * c + r) := ku_f _ _ _ _ (by decide)
      have e32 : ku σ 0 0 v 32 (6 * c + r) = σ 32 (6 * c + r) := ku_f _ _ _ _ (by decide)
      have e33 : ku σ 0 0 v 33 (6 * c + r) = σ 33 (6 * c + r) := ku_f _ _ _ _ (by decide)
      omega),
    (fun c hc => by
      have hc2 : c < σ 3 0 := by rw [ku_f _ _ _ _ (by decide)] at hc; exact hc
      have h := h10 c hc2
      have e40 : ku σ 0 0 v 40 c = σ 40 c := ku_f _ _ _ _ (by decide)
      have e41 : ku σ 0 0 v 41 c = σ 41 c := ku_f _ _ _ _ (by decide)
      have e42 : ku σ 0 0 v 42 c = σ 42 c := ku_f _ _ _ _ (by decide)
      omega),
    (fun c hc => by
      have hc2 : c < σ 4 0 := by rw [ku_f _ _ _ _ (by decide)] at hc; exact hc
      have h := h11 c hc2
      have e50 : ku σ 0 0 v 50 c = σ 50 c := ku_f _ _ _ _ (by decide)
      have e51 : ku σ 0 0 v 51 c = σ 51 c := ku_f _ _ _ _ (by decide)
      have e52 : ku σ 0 0 v 52 c = σ 52 c := ku_f _ _ _ _ (by decide)
      omega)⟩
theorem kB_p14 {σ : kS} {j v : Nat} (h : kB σ) (hv : v < 64) : kB (ku σ 14 0 v) := by
  obtain ⟨h0, h1, h2, h3, h4, h5, h6, h7, h8, h9, h10, h11⟩ := h
  exact ⟨(by rw [ku_f _ _ _ _ (by decide)]; exact h0),
    (by rw [ku_f _ _ _ _ (by decide)]; exact h1),
    (by rw [ku_f _ _ _ _ (by decide)]; exact h2),
    (by rw [ku_f _ _ _ _ (by decide)]; exact h3),
    (by rw [ku_f _ _ _ _ (by decide)]; exact h4),
    (by rw [ku_s]; exact hv),
    (by rw [ku_f _ _ _ _ (by decide)]; exact h6),
    (fun c hc => by
      have hc2 : c < σ 1 0 := by rw [ku_f _ _ _ _ (by decide)] at hc; exact hc
      have h := h7 c hc2
      have e11 : ku σ 14 0 v 11 c = σ 11 c := ku_f _ _ _ _ (by decide)
      have e10 : ku σ 14 0 v 10 c = σ 10 c := ku_f _ _ _ _ (by decide)
      omega),
    (fun c hc => by
      have hc2 : c < σ 2 0 := by rw [ku_f _ _ _ _ (by decide)] at hc; exact hc
      have h := h8 c hc2
      have e20 : ku σ 14 0 v 20 c = σ 20 c := ku_f _ _ _ _ (by decide)
      have e21 : ku σ 14 0 v 21 c = σ 21 c := ku_f _ _ _ _ (by decide)
      have e22 : ku σ 14 0 v 22 c = σ 22 c := ku_f _ _ _ _ (by decide)
      have e23 : ku σ 14 0 v 23 c = σ 23 c := ku_f _ _ _ _ (by decide)
      have e24 : ku σ 14 0 v 24 c = σ 24 c := ku_f _ _ _ _ (by decide)
      have e30 : ku σ 14 0 v 30 c = σ 30 c := ku_f _ _ _ _ (by decide)
      have e25 : ku σ 14 0 v 25 c = σ 25 c := ku_f _ _ _ _ (by decide)
      have e4 : ku σ 14 0 v 4 0 = σ 4 0 := ku_f _ _ _ _ (by decide)
      omega),
    (fun c r hc hr => by
      have hc2 : c < σ 2 0 := by rw [ku_f _ _ _ _ (by decide)] at hc; exact hc
      have h := h9 c r hc2 hr
      have e31 : ku σ 14 0 v 31 (6 * c + r) = σ 31 (6 * c + r) := ku_f _ _ _ _ (by decide)
      have e32 : ku σ 14 0 v 32 (6 * c + r) = σ 32 (6 * c + r) := ku_f _ _ _ _ (by decide)
      have e33 : ku σ 14 0 v 33 (6 * c + r) = σ 33 (6 * c + r) := ku_f _ _ _ _ (by decide)
      omega),
    (fun c hc => by
      have hc2 : c < σ 3 0 := by rw [ku_f _ _ _ _ (by decide)] at hc; exact hc
      have h := h10 c hc2
      have e40 : ku σ 14 0 v 40 c = σ 40 c := ku_f _ _ _ _ (by decide)
      have e41 : ku σ 14 0 v 41 c = σ 41 c := ku_f _ _ _ _ (by decide)
      have e42 : ku σ 14 0 v 42 c = σ 42 c := ku_f _ _ _ _ (by decide)
      omega),
    (fun c hc => by
      have hc2 : c < σ 4 0 := by rw [ku_f _ _ _ _ (by decide)] at hc; exact hc
      have h := h11 c hc2
      have e50 : ku σ 14 0 v 50 c = σ 50 c := ku_f _ _ _ _ (by decide)
      have e51 : ku σ 14 0 v 51 c = σ 51 c := ku_f _ _ _ _ (by decide)
      have e52 : ku σ 14 0 v 52 c = σ 52 c := ku_f _ _ _ _ (by decide)
      omega)⟩
theorem kB_p15 {σ : kS} {j v : Nat} (h : kB σ) (hv : v < 64) : kB (ku σ 15 0 v) := by
  obtain ⟨h0, h1, h2, h3, h4, h5, h6, h7, h8, h9, h10, h11⟩ := h
  exact ⟨(by rw [ku_f _ _ _ _ (by decide)]; exact h0),
    (by rw [ku_f _ _ _ _ (by decide)]; exact h1),
    (by rw [ku_f _ _ _ _ (by decide)]; exact h2),
    (by rw [ku_f _ _ _ _ (by decide)]; exact h3),
    (by rw [ku_f _ _ _ _ (by decide)]; exact h4),
    (by rw [ku_f _ _ _ _ (by decide)]; exact h5),
    (by rw [ku_s]; exact hv),
    (fun c hc => by
      have hc2 : c < σ 1 0 := by rw [ku_f _ _ _ _ (by decide)] at hc; exact hc
      have h := h7 c hc2
      have e11 : ku σ 15 0 v 11 c = σ 11 c := ku_f _ _ _ _ (by decide)
      have e10 : ku σ 15 0 v 10 c = σ 10 c := ku_f _ _ _ _ (by decide)
      omega),
    (fun c hc => by
      have hc2 : c < σ 2 0 := by rw [ku_f _ _ _ _ (by decide)] at hc; exact hc
      have h := h8 c hc2
      have e20 : ku σ 15 0 v 20 c = σ 20 c := ku_f _ _ _ _ (by decide)
      have e21 : ku σ 15 0 v 21 c = σ 21 c := ku_f _ _ _ _ (by decide)
      have e22 : ku σ 15 0 v 22 c = σ 22 c := ku_f _ _ _ _ (by decide)
      have e23 : ku σ 15 0 v 23 c = σ 23 c := ku_f _ _ _ _ (by decide)
      have e24 : ku σ 15 0 v 24 c = σ 24 c := ku_f _ _ _ _ (by decide)
      have e30 : ku σ 15 0 v 30 c = σ 30 c := ku_f _ _ _ _ (by decide)
      have e25 : ku σ 15 0 v 25 c = σ 25 c := ku_f _ _ _ _ (by decide)
      have e4 : ku σ 15 0 v 4 0 = σ 4 0 := ku_f _ _ _ _ (by decide)
      omega),
    (fun c r hc hr => by
      have hc2 : c < σ 2 0 := by rw [ku_f _ _ _ _ (by decide)] at hc; exact hc
      have h := h9 c r hc2 hr
      have e31 : ku σ 15 0 v 31 (6 * c + r) = σ 31 (6 * c + r) := ku_f _ _ _ _ (by decide)
      have e32 : ku σ 15 0 v 32 (6 * c + r) = σ 32 (6 * c + r) := ku_f _ _ _ _ (by decide)
      have e33 : ku σ 15 0 v 33 (6 * c + r) = σ 33 (6 * c + r) := ku_f _ _ _ _ (by decide)
      omega),
    (fun c hc => by
      have hc2 : c < σ 3 0 := by rw [ku_f _ _ _ _ (by decide)] at hc; exact hc
      have h := h10 c hc2
      have e40 : ku σ 15 0 v 40 c = σ 40 c := ku_f _ _ _ _ (by decide)
      have e41 : ku σ 15 0 v 41 c = σ 41 c := ku_f _ _ _ _ (by decide)
      have e42 : ku σ 15 0 v 42 c = σ 42 c := ku_f _ _ _ _ (by decide)
      omega),
    (fun c hc => by
      have hc2 : c < σ 4 0 := by rw [ku_f _ _ _ _ (by decide)] at hc; exact hc
      have h := h11 c hc2
      have e50 : ku σ 15 0 v 50 c = σ 50 c := ku_f _ _ _ _ (by decide)
      have e51 : ku σ 15 0 v 51 c = σ 51 c := ku_f _ _ _ _ (by decide)
      have e52 : ku σ 15 0 v 52 c = σ 52 c := ku_f _ _ _ _ (by decide)
      omega)⟩
theorem kB_p12 {σ : kS} {j v : Nat} (h : kB σ) : kB (ku σ 12 j v) := by
  obtain ⟨h0, h1, h2, h3, h4, h5, h6, h7, h8, h9, h10, h11⟩ := h
  exact ⟨(by rw [ku_f _ _ _ _ (by decide)]; exact h0),
    (by rw [ku_f _ _ _ _ (by decide)]; exact h1),
    (by rw [ku_f _ _ _ _ (by decide)]; exact h2),
    (by rw [ku_f _ _ _ _ (by decide)]; exact h3),
    (by rw [ku_f _ _ _ _ (by decide)]; exact h4),
    (by rw [ku_f _ _ _ _ (by decide)]; exact h5),
    (by rw [ku_f _ _ _ _ (by decide)]; exact h6),
    (fun c hc => by
      have hc2 : c < σ 1 0 := by rw [ku_f _ _ _ _ (by decide)] at hc; exact hc
      have h := h7 c hc2
      have e11 : ku σ 12 j v 11 c = σ 11 c := ku_f _ _ _ _ (by decide)
      have e10 : ku σ 12 j v 10 c = σ 10 c := ku_f _ _ _ _ (by decide)
      omega),
    (fun c hc => by
      have hc2 : c < σ 2 0 := by rw [ku_f _ _ _ _ (by decide)] at hc; exact hc
      have h := h8 c hc2
      have e20 : ku σ 12 j v 20 c = σ 20 c := ku_f _ _ _ _ (by decide)
      have e21 : ku σ 12 j v 21 c = σ 21 c := ku_f _ _ _ _ (by decide)
      have e22 : ku σ 12 j v 22 c = σ 22 c := ku_f _ _ _ _ (by decide)
      have e23 : ku σ 12 j v 23 c = σ 23 c := ku_f _ _ _ _ (by decide)
      have e24 : ku σ 12 j v 24 c = σ 24 c := ku_f _ _ _ _ (by decide)
      have e30 : ku σ 12 j v 30 c = σ 30 c := ku_f _ _ _ _ (by decide)
      have e25 : ku σ 12 j v 25 c = σ 25 c := ku_f _ _ _ _ (by decide)
      have e4 : ku σ 12 j v 4 0 = σ 4 0 := ku_f _ _ _ _ (by decide)
      omega),
    (fun c r hc hr => by
      have hc2 : c < σ 2 0 := by rw [ku_f _ _ _ _ (by decide)] at hc; exact hc
      have h := h9 c r hc2 hr
      have e31 : ku σ 12 j v 31 (6 * c + r) = σ 31 (6 * c + r) := ku_f _ _ _ _ (by decide)
      have e32 : ku σ 12 j v 32 (6 * c + r) = σ 32 (6 * c + r) := ku_f _ _ _ _ (by decide)
      have e33 : ku σ 12 j v 33 (6 * c + r) = σ 33 (6 * c + r) := ku_f _ _ _ _ (by decide)
      omega),
    (fun c hc => by
      have hc2 : c < σ 3 0 := by rw [ku_f _ _ _ _ (by decide)] at hc; exact hc
      have h := h10 c hc2
      have e40 : ku σ 12 j v 40 c = σ 40 c := ku_f _ _ _ _ (by decide)
      have e41 : ku σ 12 j v 41 c = σ 41 c := ku_f _ _ _ _ (by decide)
      have e42 : ku σ 12 j v 42 c = σ 42 c := ku_f _ _ _ _ (by decide)
      omega),
    (fun c hc => by
      have hc2 : c < σ 4 0 := by rw [ku_f _ _ _ _ (by decide)] at hc; exact hc
      have h := h11 c hc2
      have e50 : ku σ 12 j v 50 c = σ 50 c := ku_f _ _ _ _ (by decide)
      have e51 : ku σ 12 j v 51 c = σ 51 c := ku_f _ _ _ _ (by decide)
      have e52 : ku σ 12 j v 52 c = σ 52 c := ku_f _ _ _ _ (by decide)
      omega)⟩
theorem kB_p13 {σ : kS} {j v : Nat} (h : kB σ) : kB (ku σ 13 j v) := by
  obtain ⟨h0, h1, h2, h3, h4, h5, h6, h7, h8, h9, h10, h11⟩ := h
  exact ⟨(by rw [ku_f _ _ _ _ (by decide)]; exact h0),
    (by rw [ku_f _ _ _ _ (by decide)]; exact h1),
    (by rw [ku_f _ _ _ _ (by decide)]; exact h2),
    (by rw [ku_f _ _ _ _ (by decide)]; exact h3),
    (by rw [ku_f _ _ _ _ (by decide)]; exact h4),
    (by rw [ku_f _ _ _ _ (by decide)]; exact h5),
    (by rw [ku_f _ _ _ _ (by decide)]; exact h6),
    (fun c hc => by
      have hc2 : c < σ 1 0 := by rw [ku_f _ _ _ _ (by decide)] at hc; exact hc
      have h := h7 c hc2
      have e11 : ku σ 13 j v 11 c = σ 11 c := ku_f _ _ _ _ (by decide)
      have e10 : ku σ 13 j v 10 c = σ 10 c := ku_f _ _ _ _ (by decide)
      omega),
    (fun c hc => by
      have hc2 : c < σ 2 0 := by rw [ku_f _ _ _ _ (by decide)] at hc; exact hc
      have h := h8 c hc2
      have e20 : ku σ 13 j v 20 c = σ 20 c := ku_f _ _ _ _ (by decide)
      have e21 : ku σ 13 j v 21 c = σ 21 c := ku_f _ _ _ _ (by decide)
      have e22 : ku σ 13 j v 22 c = σ 22 c := ku_f _ _ _ _ (by decide)
      have e23 : ku σ 13 j v 23 c = σ 23 c := ku_f _ _ _ _ (by decide)
      have e24 : ku σ 13 j v 24 c = σ 24 c := ku_f _ _ _ _ (by decide)
      have e30 : ku σ 13 j v 30 c = σ 30 c := ku_f _ _ _ _ (by decide)
      have e25 : ku σ 13 j v 25 c = σ 25 c := ku_f _ _ _ _ (by decide)
      have e4 : ku σ 13 j v 4 0 = σ 4 0 := ku_f _ _ _ _ (by decide)
      omega),
    (fun c r hc hr => by
      have hc2 : c < σ 2 0 := by rw [ku_f _ _ _ _ (by decide)] at hc; exact hc
      have h := h9 c r hc2 hr
      have e31 : ku σ 13 j v 31 (6 * c + r) = σ 31 (6 * c + r) := ku_f _ _ _ _ (by decide)
      have e32 : ku σ 13 j v 32 (6 * c + r) = σ 32 (6 * c + r) := ku_f _ _ _ _ (by decide)
      have e33 : ku σ 13 j v 33 (6 * c + r) = σ 33 (6 * c + r) := ku_f _ _ _ _ (by decide)
      omega),
    (fun c hc => by
      have hc2 : c < σ 3 0 := by rw [ku_f _ _ _ _ (by decide)] at hc; exact hc
      have h := h10 c hc2
      have e40 : ku σ 13 j v 40 c = σ 40 c := ku_f _ _ _ _ (by decide)
      have e41 : ku σ 13 j v 41 c = σ 41 c := ku_f _ _ _ _ (by decide)
      have e42 : ku σ 13 j v 42 c = σ 42 c := ku_f _ _ _ _ (by decide)
      omega),
    (fun c hc => by
      have hc2 : c < σ 4 0 := by rw [ku_f _ _ _ _ (by decide)] at hc; exact hc
      have h := h11 c hc2
      have e50 : ku σ 13 j v 50 c = σ 50 c := ku_f _ _ _ _ (by decide)
      have e51 : ku σ 13 j v 51 c = σ 51 c := ku_f _ _ _ _ (by decide)
      have e52 : ku σ 13 j v 52 c = σ 52 c := ku_f _ _ _ _ (by decide)
      omega)⟩
theorem kB_p23 {σ : kS} {j v : Nat} (h : kB σ) (hv : 1 ≤ v ∧ v ≤ 6) : kB (ku σ 23 j v) := by
  obtain ⟨h0, h1, h2, h3, h4, h5, h6, h7, h8, h9, h10, h11⟩ := h
  exact ⟨(by rw [ku_f _ _ _ _ (by decide)]; exact h0),
    (by rw [ku_f _ _ _ _ (by decide)]; exact h1),
    (by rw [ku_f _ _ _ _ (by decide)]; exact h2),
    (by rw [ku_f _ _ _ _ (by decide)]; exact h3),
    (by rw [ku_f _ _ _ _ (by decide)]; exact h4),
    (by rw [ku_f _ _ _ _ (by decide)]; exact h5),
    (by rw [ku_f _ _ _ _ (by decide)]; exact h6),
    (fun c hc => by
      have hc2 : c < σ 1 0 := by rw [ku_f _ _ _ _ (by decide)] at hc; exact hc
      have h := h7 c hc2
      have e11 : ku σ 23 j v 11 c = σ 11 c := ku_f _ _ _ _ (by decide)
      have e10 : ku σ 23 j v 10 c = σ 10 c := ku_f _ _ _ _ (by decide)
      omega),
    (fun c hc => by
      have hc2 : c < σ 2 0 := by rw [ku_f _ _ _ _ (by decide)] at hc; exact hc
      have h := h8 c hc2
      have e20 : ku σ 23 j v 20 c = σ 20 c := ku_f _ _ _ _ (by decide)
      have e21 : ku σ 23 j v 21 c = σ 21 c := ku_f _ _ _ _ (by decide)
      have e22 : ku σ 23 j v 22 c = σ 22 c := ku_f _ _ _ _ (by decide)
      have e23 : ku σ 23 j v 23 c = if c = j then v else σ 23 c := ku_e _ _ _ _ _
      have e24 : ku σ 23 j v 24 c = σ 24 c := ku_f _ _ _ _ (by decide)
      have e30 : ku σ 23 j v 30 c = σ 30 c := ku_f _ _ _ _ (by decide)
      have e25 : ku σ 23 j v 25 c = σ 25 c := ku_f _ _ _ _ (by decide)
      have e4 : ku σ 23 j v 4 0 = σ 4 0 := ku_f _ _ _ _ (by decide)
      split at e23 <;> omega),
    (fun c r hc hr => by
      have hc2 : c < σ 2 0 := by rw [ku_f _ _ _ _ (by decide)] at hc; exact hc
      have h := h9 c r hc2 hr
      have e31 : ku σ 23 j v 31 (6 * c + r) = σ 31 (6 * c + r) := ku_f _ _ _ _ (by decide)
      have e32 : ku σ 23 j v 32 (6 * c + r) = σ 32 (6 * c + r) := ku_f _ _ _ _ (by decide)
      have e33 : ku σ 23 j v 33 (6 * c + r) = σ 33 (6 * c + r) := ku_f _ _ _ _ (by decide)
      omega),
    (fun c hc => by
      have hc2 : c < σ 3 0 := by rw [ku_f _ _ _ _ (by decide)] at hc; exact hc
      have h := h10 c hc2
      have e40 : ku σ 23 j v 40 c = σ 40 c := ku_f _ _ _ _ (by decide)
      have e41 : ku σ 23 j v 41 c = σ 41 c := ku_f _ _ _ _ (by decide)
      have e42 : ku σ 23 j v 42 c = σ 42 c := ku_f _ _ _ _ (by decide)
      omega),
    (fun c hc => by
      have hc2 : c < σ 4 0 := by rw [ku_f _ _ _ _ (by decide)] at hc; exact hc
      have h := h11 c hc2
      have e50 : ku σ 23 j v 50 c = σ 50 c := ku_f _ _ _ _ (by decide)
      have e51 : ku σ 23 j v 51 c = σ 51 c := ku_f _ _ _ _ (by decide)
      have e52 : ku σ 23 j v 52 c = σ 52 c := ku_f _ _ _ _ (by decide)
      omega)⟩
theorem kB_p24 {σ : kS} {j v : Nat} (h : kB σ) (hv : v ≤ 2) : kB (ku σ 24 j v) := by
  obtain ⟨h0, h1, h2, h3, h4, h5, h6, h7, h8, h9, h10, h11⟩ := h
  exact ⟨(by rw [ku_f _ _ _ _ (by decide)]; exact h0),
    (by rw [ku_f _ _ _ _ (by decide)]; exact h1),
    (by rw [ku_f _ _ _ _ (by decide)]; exact h2),
    (by rw [ku_f _ _ _ _ (by decide)]; exact h3),
    (by rw [ku_f _ _ _ _ (by decide)]; exact h4),
    (by rw [ku_f _ _ _ _ (by decide)]; exact h5),
    (by rw [ku_f _ _ _ _ (by decide)]; exact h6),
    (fun c hc => by
      have hc2 : c < σ 1 0 := by rw [ku_f _ _ _ _ (by decide)] at hc; exact hc
      have h := h7 c hc2
      have e11 : ku σ 24 j v 11 c = σ 11 c := ku_f _ _ _ _ (by decide)
      have e10 : ku σ 24 j v 10 c = σ 10 c := ku_f _ _ _ _ (by decide)
      omega),
    (fun c hc => by
      have hc2 : c < σ 2 0 := by rw [ku_f _ _ _ _ (by decide)] at hc; exact hc
      have h := h8 c hc2
      have e20 : ku σ 24 j v 20 c = σ 20 c := ku_f _ _ _ _ (by decide)
      have e21 : ku σ 24 j v 21 c = σ 21 c := ku_f _ _ _ _ (by decide)
      have e22 : ku σ 24 j v 22 c = σ 22 c := ku_f _ _ _ _ (by decide)
      have e23 : ku σ 24 j v 23 c = σ 23 c := ku_f _ _ _ _ (by decide)
      have e24 : ku σ 24 j v 24 c = if c = j then v else σ 24 c := ku_e _ _ _ _ _
      have e30 : ku σ 24 j v 30 c = σ 30 c := ku_f _ _ _ _ (by decide)
      have e25 : ku σ 24 j v 25 c = σ 25 c := ku_f _ _ _ _ (by decide)
      have e4 : ku σ 24 j v 4 0 = σ 4 0 := ku_f _ _ _ _ (by decide)
      split at e24 <;> omega),
    (fun c r hc hr => by
      have hc2 : c < σ 2 0 := by rw [ku_f _ _ _ _ (by decide)] at hc; exact hc
      have h := h9 c r hc2 hr
      have e31 : ku σ 24 j v 31 (6 * c + r) = σ 31 (6 * c + r) := ku_f _ _ _ _ (by decide)
      have e32 : ku σ 24 j v 32 (6 * c + r) = σ 32 (6 * c + r) := ku_f _ _ _ _ (by decide)
      have e33 : ku σ 24 j v 33 (6 * c + r) = σ 33 (6 * c + r) := ku_f _ _ _ _ (by decide)
      omega),
    (fun c hc => by
      have hc2 : c < σ 3 0 := by rw [ku_f _ _ _ _ (by decide)] at hc; exact hc
      have h := h10 c hc2
      have e40 : ku σ 24 j v 40 c = σ 40 c := ku_f _ _ _ _ (by decide)
      have e41 : ku σ 24 j v 41 c = σ 41 c := ku_f _ _ _ _ (by decide)
      have e42 : ku σ 24 j v 42 c = σ 42 c := ku_f _ _ _ _ (by decide)
      omega),
    (fun c hc => by
      have hc2 : c < σ 4 0 := by rw [ku_f _ _ _ _ (by decide)] at hc; exact hc
      have h := h11 c hc2
      have e50 : ku σ 24 j v 50 c = σ 50 c := ku_f _ _ _ _ (by decide)
      have e51 : ku σ 24 j v 51 c = σ 51 c := ku_f _ _ _ _ (by decide)
      have e52 : ku σ 24 j v 52 c = σ 52 c := ku_f _ _ _ _ (by decide)
      omega)⟩
theorem kB_p25 {σ : kS} {j v : Nat} (h : kB σ) (hv : v ≤ σ 4 0) : kB (ku σ 25 j v) := by
  obtain ⟨h0, h1, h2, h3, h4, h5, h6, h7, h8, h9, h10, h11⟩ := h
  exact ⟨(by rw [ku_f _ _ _ _ (by decide)]; exact h0),
    (by rw [ku_f _ _ _ _ (by decide)]; exact h1),
    (by rw [ku_f _ _ _ _ (by decide)]; exact h2),
    (by rw [ku_f _ _ _ _ (by decide)]; exact h3),
    (by rw [ku_f _ _ _ _ (by decide)]; exact h4),
    (by rw [ku_f _ _ _ _ (by decide)]; exact h5),
    (by rw [ku_f _ _ _ _ (by decide)]; exact h6),
    (fun c hc => by
      have hc2 : c < σ 1 0 := by rw [ku_f _ _ _ _ (by decide)] at hc; exact hc
      have h := h7 c hc2
      have e11 : ku σ 25 j v 11 c = σ 11 c := ku_f _ _ _ _ (by decide)
      have e10 : ku σ 25 j v 10 c = σ 10 c := ku_f _ _ _ _ (by decide)
      omega),
    (fun c hc => by
      have hc2 : c < σ 2 0 := by rw [ku_f _ _ _ _ (by decide)] at hc; exact hc
      have h := h8 c hc2
      have e20 : ku σ 25 j v 20 c = σ 20 c := ku_f _ _ _ _ (by decide)
      have e21 : ku σ 25 j v 21 c = σ 21 c := ku_f _ _ _ _ (by decide)
      have e22 : ku σ 25 j v 22 c = σ 22 c := ku_f _ _ _ _ (by decide)
      have e23 : ku σ 25 j v 23 c = σ 23 c := ku_f _ _ _ _ (by decide)
      have e24 : ku σ 25 j v 24 c = σ 24 c := ku_f _ _ _ _ (by decide)
      have e30 : ku σ 25 j v 30 c = σ 30 c := ku_f _ _ _ _ (by decide)
      have e25 : ku σ 25 j v 25 c = if c = j then v else σ 25 c := ku_e _ _ _ _ _
      have e4 : ku σ 25 j v 4 0 = σ 4 0 := ku_f _ _ _ _ (by decide)
      split at e25 <;> omega),
    (fun c r hc hr => by
      have hc2 : c < σ 2 0 := by rw [ku_f _ _ _ _ (by decide)] at hc; exact hc
      have h := h9 c r hc2 hr
      have e31 : ku σ 25 j v 31 (6 * c + r) = σ 31 (6 * c + r) := ku_f _ _ _ _ (by decide)
      have e32 : ku σ 25 j v 32 (6 * c + r) = σ 32 (6 * c + r) := ku_f _ _ _ _ (by decide)
      have e33 : ku σ 25 j v 33 (6 * c + r) = σ 33 (6 * c + r) := ku_f _ _ _ _ (by decide)
      omega),
    (fun c hc => by
      have hc2 : c < σ 3 0 := by rw [ku_f _ _ _ _ (by decide)] at hc; exact hc
      have h := h10 c hc2
      have e40 : ku σ 25 j v 40 c = σ 40 c := ku_f _ _ _ _ (by decide)
      have e41 : ku σ 25 j v 41 c = σ 41 c := ku_f _ _ _ _ (by decide)
      have e42 : ku σ 25 j v 42 c = σ 42 c := ku_f _ _ _ _ (by decide)
      omega),
    (fun c hc => by
      have hc2 : c < σ 4 0 := by rw [ku_f _ _ _ _ (by decide)] at hc; exact hc
      have h := h11 c hc2
      have e50 : ku σ 25 j v 50 c = σ 50 c := ku_f _ _ _ _ (by decide)
      have e51 : ku σ 25 j v 51 c = σ 51 c := ku_f _ _ _ _ (by decide)
      have e52 : ku σ 25 j v 52 c = σ 52 c := ku_f _ _ _ _ (by decide)
      omega)⟩
theorem kB_p26 {σ : kS} {j v : Nat} (h : kB σ) : kB (ku σ 26 j v) := by
  obtain ⟨h0, h1, h2, h3, h4, h5, h6, h7, h8, h9, h10, h11⟩ := h
  exact ⟨(by rw [ku_f _ _ _ _ (by decide)]; exact h0),
    (by rw [ku_f _ _ _ _ (by decide)]; exact h1),
    (by rw [ku_f _ _ _ _ (by decide)]; exact h2),
    (by rw [ku_f _ _ _ _ (by decide)]; exact h3),
    (by rw [ku_f _ _ _ _ (by decide)]; exact h4),
    (by rw [ku_f _ _ _ _ (by decide)]; exact h5),
    (by rw [ku_f _ _ _ _ (by decide)]; exact h6),
    (fun c hc => by
      have hc2 : c < σ 1 0 := by rw [ku_f _ _ _ _ (by decide)] at hc; exact hc
      have h := h7 c hc2
      have e11 : ku σ 26 j v 11 c = σ 11 c := ku_f _ _ _ _ (by decide)
      have e10 : ku σ 26 j v 10 c = σ 10 c := ku_f _ _ _ _ (by decide)
      omega),
    (fun c hc => by
      have hc2 : c < σ 2 0 := by rw [ku_f _ _ _ _ (by decide)] at hc; exact hc
      have h := h8 c hc2
      have e20 : ku σ 26 j v 20 c = σ 20 c := ku_f _ _ _ _ (by decide)
      have e21 : ku σ 26 j v 21 c = σ 21 c := ku_f _ _ _ _ (by decide)
      have e22 : ku σ 26 j v 22 c = σ 22 c := ku_f _ _ _ _ (by decide)
      have e23 : ku σ 26 j v 23 c = σ 23 c := ku_f _ _ _ _ (by decide)
      have e24 : ku σ 26 j v 24 c = σ 24 c := ku_f _ _ _ _ (by decide)
      have e30 : ku σ 26 j v 30 c = σ 30 c := ku_f _ _ _ _ (by decide)
      have e25 : ku σ 26 j v 25 c = σ 25 c := ku_f _ _ _ _ (by decide)
      have e4 : ku σ 26 j v 4 0 = σ 4 0 := ku_f _ _ _ _ (by decide)
      omega),
    (fun c r hc hr => by
      have hc2 : c < σ 2 0 := by rw [ku_f _ _ _ _ (by decide)] at hc; exact hc
      have h := h9 c r hc2 hr
      have e31 : ku σ 26 j v 31 (6 * c + r) = σ 31 (6 * c + r) := ku_f _ _ _ _ (by decide)
      have e32 : ku σ 26 j v 32 (6 * c + r) = σ 32 (6 * c + r) := ku_f _ _ _ _ (by decide)
      have e33 : ku σ 26 j v 33 (6 * c + r) = σ 33 (6 * c + r) := ku_f _ _ _ _ (by decide)
      omega),
    (fun c hc => by
      have hc2 : c < σ 3 0 := by rw [ku_f _ _ _ _ (by decide)] at hc; exact hc
      have h := h10 c hc2
      have e40 : ku σ 26 j v 40 c = σ 40 c := ku_f _ _ _ _ (by decide)
      have e41 : ku σ 26 j v 41 c = σ 41 c := ku_f _ _ _ _ (by decide)
      have e42 : ku σ 26 j v 42 c = σ 42 c := ku_f _ _ _ _ (by decide)
      omega),
    (fun c hc => by
      have hc2 : c < σ 4 0 := by rw [ku_f _ _ _ _ (by decide)] at hc; exact hc
      have h := h11 c hc2
      have e50 : ku σ 26 j v 50 c = σ 50 c := ku_f _ _ _ _ (by decide)
      have e51 : ku σ 26 j v 51 c = σ 51 c := ku_f _ _ _ _ (by decide)
      have e52 : ku σ 26 j v 52 c = σ 52 c := ku_f _ _ _ _ (by decide)
      omega)⟩
theorem kB_p27 {σ : kS} {j v : Nat} (h : kB σ) : kB (ku σ 27 j v) := by
  obtain ⟨h0, h1, h2, h3, h4, h5, h6, h7, h8, h9, h10, h11⟩ := h
  exact ⟨(by rw [ku_f _ _ _ _ (by decide)]; exact h0),
    (by rw [ku_f _ _ _ _ (by decide)]; exact h1),
    (by rw [ku_f _ _ _ _ (by decide)]; exact h2),
    (by rw [ku_f _ _ _ _ (by decide)]; exact h3),
    (by rw [ku_f _ _ _ _ (by decide)]; exact h4),
    (by rw [ku_f _ _ _ _ (by decide)]; exact h5),
    (by rw [ku_f _ _ _ _ (by decide)]; exact h6),
    (fun c hc => by
      have hc2 : c < σ 1 0 := by rw [ku_f _ _ _ _ (by decide)] at hc; exact hc
      have h := h7 c hc2
      have e11 : ku σ 27 j v 11 c = σ 11 c := ku_f _ _ _ _ (by decide)
      have e10 : ku σ 27 j v 10 c = σ 10 c := ku_f _ _ _ _ (by decide)
      omega),
    (fun c hc => by
      have hc2 : c < σ 2 0 := by rw [ku_f _ _ _ _ (by decide)] at hc; exact hc
      have h := h8 c hc2
      have e20 : ku σ 27 j v 20 c = σ 20 c := ku_f _ _ _ _ (by decide)
      have e21 : ku σ 27 j v 21 c = σ 21 c := ku_f _ _ _ _ (by decide)
      have e22 : ku σ 27 j v 22 c = σ 22 c := ku_f _ _ _ _ (by decide)
      have e23 : ku σ 27 j v 23 c = σ 23 c := ku_f _ _ _ _ (by decide)
      have e24 : ku σ 27 j v 24 c = σ 24 c := ku_f _ _ _ _ (by decide)
      have e30 : ku σ 27 j v 30 c = σ 30 c := ku_f _ _ _ _ (by decide)
      have e25 : ku σ 27 j v 25 c = σ 25 c := ku_f _ _ _ _ (by decide)
      have e4 : ku σ 27 j v 4 0 = σ 4 0 := ku_f _ _ _ _ (by decide)
      omega),
    (fun c r hc hr => by
      have hc2 : c < σ 2 0 := by rw [ku_f _ _ _ _ (by decide)] at hc; exact hc
      have h := h9 c r hc2 hr
      have e31 : ku σ 27 j v 31 (6 * c + r) = σ 31 (6 * c + r) := ku_f _ _ _ _ (by decide)
      have e32 : ku σ 27 j v 32 (6 * c + r) = σ 32 (6 * c + r) := ku_f _ _ _ _ (by decide)
      have e33 : ku σ 27 j v 33 (6 * c + r) = σ 33 (6 * c + r) := ku_f _ _ _ _ (by decide)
      omega),
    (fun c hc => by
      have hc2 : c < σ 3 0 := by rw [ku_f _ _ _ _ (by decide)] at hc; exact hc
      have h := h10 c hc2
      have e40 : ku σ 27 j v 40 c = σ 40 c := ku_f _ _ _ _ (by decide)
      have e41 : ku σ 27 j v 41 c = σ 41 c := ku_f _ _ _ _ (by decide)
      have e42 : ku σ 27 j v 42 c = σ 42 c := ku_f _ _ _ _ (by decide)
      omega),
    (fun c hc => by
      have hc2 : c < σ 4 0 := by rw [ku_f _ _ _ _ (by decide)] at hc; exact hc
      have h := h11 c hc2
      have e50 : ku σ 27 j v 50 c = σ 50 c := ku_f _ _ _ _ (by decide)
      have e51 : ku σ 27 j v 51 c = σ 51 c := ku_f _ _ _ _ (by decide)
      have e52 : ku σ 27 j v 52 c = σ 52 c := ku_f _ _ _ _ (by decide)
      omega)⟩
theorem kB_p30 {σ : kS} {j v : Nat} (h : kB σ) (hv : v < 64) : kB (ku σ 30 j v) := by
  obtain ⟨h0, h1, h2, h3, h4, h5, h6, h7, h8, h9, h10, h11⟩ := h
  exact ⟨(by rw [ku_f _ _ _ _ (by decide)]; exact h0),
    (by rw [ku_f _ _ _ _ (by decide)]; exact h1),
    (by rw [ku_f _ _ _ _ (by decide)]; exact h2),
    (by rw [ku_f _ _ _ _ (by decide)]; exact h3),
    (by rw [ku_f _ _ _ _ (by decide)]; exact h4),
    (by rw [ku_f _ _ _ _ (by decide)]; exact h5),
    (by rw [ku_f _ _ _ _ (by decide)]; exact h6),
    (fun c hc => by
      have hc2 : c < σ 1 0 := by rw [ku_f _ _ _ _ (by decide)] at hc; exact hc
      have h := h7 c hc2
      have e11 : ku σ 30 j v 11 c = σ 11 c := ku_f _ _ _ _ (by decide)
      have e10 : ku σ 30 j v 10 c = σ 10 c := ku_f _ _ _ _ (by decide)
      omega),
    (fun c hc => by
      have hc2 : c < σ 2 0 := by rw [ku_f _ _ _ _ (by decide)] at hc; exact hc
      have h := h8 c hc2
      have e20 : ku σ 30 j v 20 c = σ 20 c := ku_f _ _ _ _ (by decide)
      have e21 : ku σ 30 j v 21 c = σ 21 c := ku_f _ _ _ _ (by decide)
      have e22 : ku σ 30 j v 22 c = σ 22 c := ku_f _ _ _ _ (by decide)
      have e23 : ku σ 30 j v 23 c = σ 23 c := ku_f _ _ _ _ (by decide)
      have e24 : ku σ 30 j v 24 c = σ 24 c := ku_f _ _ _ _ (by decide)
      have e30 : ku σ 30 j v 30 c = if c = j then v else σ 30 c := ku_e _ _ _ _ _
      have e25 : ku σ 30 j v 25 c = σ 25 c := ku_f _ _ _ _ (by decide)
      have e4 : ku σ 30 j v 4 0 = σ 4 0 := ku_f _ _ _ _ (by decide)
      split at e30 <;> omega),
    (fun c r hc hr => by
      have hc2 : c < σ 2 0 := by rw [ku_f _ _ _ _ (by decide)] at hc; exact hc
      have h := h9 c r hc2 hr
      have e31 : ku σ 30 j v 31 (6 * c + r) = σ 31 (6 * c + r) := ku_f _ _ _ _ (by decide)
      have e32 : ku σ 30 j v 32 (6 * c + r) = σ 32 (6 * c + r) := ku_f _ _ _ _ (by decide)
      have e33 : ku σ 30 j v 33 (6 * c + r) = σ 33 (6 * c + r) := ku_f _ _ _ _ (by decide)
      omega),
    (fun c hc => by
      have hc2 : c < σ 3 0 := by rw [ku_f _ _ _ _ (by decide)] at hc; exact hc
      have h := h10 c hc2
      have e40 : ku σ 30 j v 40 c = σ 40 c := ku_f _ _ _ _ (by decide)
      have e41 : ku σ 30 j v 41 c = σ 41 c := ku_f _ _ _ _ (by decide)
      have e42 : ku σ 30 j v 42 c = σ 42 c := ku_f _ _ _ _ (by decide)
      omega),
    (fun c hc => by
      have hc2 : c < σ 4 0 := by rw [ku_f _ _ _ _ (by decide)] at hc; exact hc
      have h := h11 c hc2
      have e50 : ku σ 30 j v 50 c = σ 50 c := ku_f _ _ _ _ (by decide)
      have e51 : ku σ 30 j v 51 c = σ 51 c := ku_f _ _ _ _ (by decide)
      have e52 : ku σ 30 j v 52 c = σ 52 c := ku_f _ _ _ _ (by decide)
      omega)⟩
theorem kB_p31 {σ : kS} {j v : Nat} (h : kB σ) (hv : v ≤ 2) : kB (ku σ 31 j v) := by
  obtain ⟨h0, h1, h2, h3, h4, h5, h6, h7, h8, h9, h10, h11⟩ := h
  exact ⟨(by rw [ku_f _ _ _ _ (by decide)]; exact h0),
    (by rw [ku_f _ _ _ _ (by decide)]; exact h1),
    (by rw [ku_f _ _ _ _ (by decide)]; exact h2),
    (by rw [ku_f _ _ _ _ (by decide)]; exact h3),
    (by rw [ku_f _ _ _ _ (by decide)]; exact h4),
    (by rw [ku_f _ _ _ _ (by decide)]; exact h5),
    (by rw [ku_f _ _ _ _ (by decide)]; exact h6),
    (fun c hc => by
      have hc2 : c < σ 1 0 := by rw [ku_f _ _ _ _ (by decide)] at hc; exact hc
      have h := h7 c hc2
      have e11 : ku σ 31 j v 11 c = σ 11 c := ku_f _ _ _ _ (by decide)
      have e10 : ku σ 31 j v 10 c = σ 10 c := ku_f _ _ _ _ (by decide)
      omega),
    (fun c hc => by
      have hc2 : c < σ 2 0 := by rw [ku_f _ _ _ _ (by decide)] at hc; exact hc
      have h := h8 c hc2
      have e20 : ku σ 31 j v 20 c = σ 20 c := ku_f _ _ _ _ (by decide)
      have e21 : ku σ 31 j v 21 c = σ 21 c := ku_f _ _ _ _ (by decide)
      have e22 : ku σ 31 j v 22 c = σ 22 c := ku_f _ _ _ _ (by decide)
      have e23 : ku σ 31 j v 23 c = σ 23 c := ku_f _ _ _ _ (by decide)
      have e24 : ku σ 31 j v 24 c = σ 24 c := ku_f _ _ _ _ (by decide)
      have e30 : ku σ 31 j v 30 c = σ 30 c := ku_f _ _ _ _ (by decide)
      have e25 : ku σ 31 j v 25 c = σ 25 c := ku_f _ _ _ _ (by decide)
      have e4 : ku σ 31 j v 4 0 = σ 4 0 := ku_f _ _ _ _ (by decide)
      omega),
    (fun c r hc hr => by
      have hc2 : c < σ 2 0 := by rw [ku_f _ _ _ _ (by decide)] at hc; exact hc
      have h := h9 c r hc2 hr
      have e31 : ku σ 31 j v 31 (6 * c + r) = if (6 * c + r) = j then v else σ 31 (6 * c + r) := ku_e _ _ _ _ _
      have e32 : ku σ 31 j v 32 (6 * c + r) = σ 32 (6 * c + r) := ku_f _ _ _ _ (by decide)
      have e33 : ku σ 31 j v 33 (6 * c + r) = σ 33 (6 * c + r) := ku_f _ _ _ _ (by decide)
      split at e31 <;> omega),
    (fun c hc => by
      have hc2 : c < σ 3 0 := by rw [ku_f _ _ _ _ (by decide)] at hc; exact hc
      have h := h10 c hc2
      have e40 : ku σ 31 j v 40 c = σ 40 c := ku_f _ _ _ _ (by decide)
      have e41 : ku σ 31 j v 41 c = σ 41 c := ku_f _ _ _ _ (by decide)
      have e42 : ku σ 31 j v 42 c = σ 42 c := ku_f _ _ _ _ (by decide)
      omega),
    (fun c hc => by
      have hc2 : c < σ 4 0 := by rw [ku_f _ _ _ _ (by decide)] at hc; exact hc
      have h := h11 c hc2
      have e50 : ku σ 31 j v 50 c = σ 50 c := ku_f _ _ _ _ (by decide)
      have e51 : ku σ 31 j v 51 c = σ 51 c := ku_f _ _ _ _ (by decide)
      have e52 : ku σ 31 j v 52 c = σ 52 c := ku_f _ _ _ _ (by decide)
      omega)⟩
theorem kB_p32 {σ : kS} {j v : Nat} (h : kB σ) (hv : v ≤ 3) : kB (ku σ 32 j v) := by
  obtain ⟨h0, h1, h2, h3, h4, h5, h6, h7, h8, h9, h10, h11⟩ := h
  exact ⟨(by rw [ku_f _ _ _ _ (by decide)]; exact h0),
    (by rw [ku_f _ _ _ _ (by decide)]; exact h1),
    (by rw [ku_f _ _ _ _ (by decide)]; exact h2),
    (by rw [ku_f _ _ _ _ (by decide)]; exact h3),
    (by rw [ku_f _ _ _ _ (by decide)]; exact h4),
    (by rw [ku_f _ _ _ _ (by decide)]; exact h5),
    (by rw [ku_f _ _ _ _ (by decide)]; exact h6),
    (fun c hc => by
      have hc2 : c < σ 1 0 := by rw [ku_f _ _ _ _ (by decide)] at hc; exact hc
      have h := h7 c hc2
      have e11 : ku σ 32 j v 11 c = σ 11 c := ku_f _ _ _ _ (by decide)
      have e10 : ku σ 32 j v 10 c = σ 10 c := ku_f _ _ _ _ (by decide)
      omega),
    (fun c hc => by
      have hc2 : c < σ 2 0 := by rw [ku_f _ _ _ _ (by decide)] at hc; exact hc
      have h := h8 c hc2
      have e20 : ku σ 32 j v 20 c = σ 20 c := ku_f _ _ _ _ (by decide)
      have e21 : ku σ 32 j v 21 c = σ 21 c := ku_f _ _ _ _ (by decide)
      have e22 : ku σ 32 j v 22 c = σ 22 c := ku_f _ _ _ _ (by decide)
      have e23 : ku σ 32 j v 23 c = σ 23 c := ku_f _ _ _ _ (by decide)
      have e24 : ku σ 32 j v 24 c = σ 24 c := ku_f _ _ _ _ (by decide)
      have e30 : ku σ 32 j v 30 c = σ 30 c := ku_f _ _ _ _ (by decide)
      have e25 : ku σ 32 j v 25 c = σ 25 c := ku_f _ _ _ _ (by decide)
      have e4 : ku σ 32 j v 4 0 = σ 4 0 := ku_f _ _ _ _ (by decide)
      omega),
    (fun c r hc hr => by
      have hc2 : c < σ 2 0 := by rw [ku_f _ _ _ _ (by decide)] at hc; exact hc
      have h := h9 c r hc2 hr
      have e31 : ku σ 32 j v 31 (6 * c + r) = σ 31 (6 * c + r) := ku_f _ _ _ _ (by decide)
      have e32 : ku σ 32 j v 32 (6 * c + r) = if (6 * c + r) = j then v else σ 32 (6 * c + r) := ku_e _ _ _ _ _
      have e33 : ku σ 32 j v 33 (6 * c + r) = σ 33 (6 * c + r) := ku_f _ _ _ _ (by decide)
      split at e32 <;> omega),
    (fun c hc => by
      have hc2 : c < σ 3 0 := by rw [ku_f _ _ _ _ (by decide)] at hc; exact hc
      have h := h10 c hc2
      have e40 : ku σ 32 j v 40 c = σ 40 c := ku_f _ _ _ _ (by decide)
      have e41 : ku σ 32 j v 41 c = σ 41 c := ku_f _ _ _ _ (by decide)
      have e42 : ku σ 32 j v 42 c = σ 42 c := ku_f _ _ _ _ (by decide)
      omega),
    (fun c hc => by
      have hc2 : c < σ 4 0 := by rw [ku_f _ _ _ _ (by decide)] at hc; exact hc
      have h := h11 c hc2
      have e50 : ku σ 32 j v 50 c = σ 50 c := ku_f _ _ _ _ (by decide)
      have e51 : ku σ 32 j v 51 c = σ 51 c := ku_f _ _ _ _ (by decide)
      have e52 : ku σ 32 j v 52 c = σ 52 c := ku_f _ _ _ _ (by decide)
      omega)⟩
theorem kB_p33 {σ : kS} {j v : Nat} (h : kB σ) (hv : v ≤ 200000) : kB (ku σ 33 j v) := by
  obtain ⟨h0, h1, h2, h3, h4, h5, h6, h7, h8, h9, h10, h11⟩ := h
  exact ⟨(by rw [ku_f _ _ _ _ (by decide)]; exact h0),
    (by rw [ku_f _ _ _ _ (by decide)]; exact h1),
    (by rw [ku_f _ _ _ _ (by decide)]; exact h2),
    (by rw [ku_f _ _ _ _ (by decide)]; exact h3),
    (by rw [ku_f _ _ _ _ (by decide)]; exact h4),
    (by rw [ku_f _ _ _ _ (by decide)]; exact h5),
    (by rw [ku_f _ _ _ _ (by decide)]; exact h6),
    (fun c hc => by
      have hc2 : c < σ 1 0 := by rw [ku_f _ _ _ _ (by decide)] at hc; exact hc
      have h := h7 c hc2
      have e11 : ku σ 33 j v 11 c = σ 11 c := ku_f _ _ _ _ (by decide)
      have e10 : ku σ 33 j v 10 c = σ 10 c := ku_f _ _ _ _ (by decide)
      omega),
    (fun c hc => by
      have hc2 : c < σ 2 0 := by rw [ku_f _ _ _ _ (by decide)] at hc; exact hc
      have h := h8 c hc2
      have e20 : ku σ 33 j v 20 c = σ 20 c := ku_f _ _ _ _ (by decide)
      have e21 : ku σ 33 j v 21 c = σ 21 c := ku_f _ _ _ _ (by decide)
      have e22 : ku σ 33 j v 22 c = σ 22 c := ku_f _ _ _ _ (by decide)
      have e23 : ku σ 33 j v 23 c = σ 23 c := ku_f _ _ _ _ (by decide)
      have e24 : ku σ 33 j v 24 c = σ 24 c := ku_f _ _ _ _ (by decide)
      have e30 : ku σ 33 j v 30 c = σ 30 c := ku_f _ _ _ _ (by decide)
      have e25 : ku σ 33 j v 25 c = σ 25 c := ku_f _ _ _ _ (by decide)
      have e4 : ku σ 33 j v 4 0 = σ 4 0 := ku_f _ _ _ _ (by decide)
      omega),
    (fun c r hc hr => by
      have hc2 : c < σ 2 0 := by rw [ku_f _ _ _ _ (by decide)] at hc; exact hc
      have h := h9 c r hc2 hr
      have e31 : ku σ 33 j v 31 (6 * c + r) = σ 31 (6 * c + r) := ku_f _ _ _ _ (by decide)
      have e32 : ku σ 33 j v 32 (6 * c + r) = σ 32 (6 * c + r) := ku_f _ _ _ _ (by decide)
      have e33 : ku σ 33 j v 33 (6 * c + r) = if (6 * c + r) = j then v else σ 33 (6 * c + r) := ku_e _ _ _ _ _
      split at e33 <;> omega),
    (fun c hc => by
      have hc2 : c < σ 3 0 := by rw [ku_f _ _ _ _ (by decide)] at hc; exact hc
      have h := h10 c hc2
      have e40 : ku σ 33 j v 40 c = σ 40 c := ku_f _ _ _ _ (by decide)
      have e41 : ku σ 33 j v 41 c = σ 41 c := ku_f _ _ _ _ (by decide)
      have e42 : ku σ 33 j v 42 c = σ 42 c := ku_f _ _ _ _ (by decide)
      omega),
    (fun c hc => by
      have hc2 : c < σ 4 0 := by rw [ku_f _ _ _ _ (by decide)] at hc; exact hc
      have h := h11 c hc2
      have e50 : ku σ 33 j v 50 c = σ 50 c := ku_f _ _ _ _ (by decide)
      have e51 : ku σ 33 j v 51 c = σ 51 c := ku_f _ _ _ _ (by decide)
      have e52 : ku σ 33 j v 52 c = σ 52 c := ku_f _ _ _ _ (by decide)
      omega)⟩
theorem kB_p42 {σ : kS} {j v : Nat} (h : kB σ) (hv : v ≤ 120000) : kB (ku σ 42 j v) := by
  obtain ⟨h0, h1, h2, h3, h4, h5, h6, h7, h8, h9, h10, h11⟩ := h
  exact ⟨(by rw [ku_f _ _ _ _ (by decide)]; exact h0),
    (by rw [ku_f _ _ _ _ (by decide)]; exact h1),
    (by rw [ku_f _ _ _ _ (by decide)]; exact h2),
    (by rw [ku_f _ _ _ _ (by decide)]; exact h3),
    (by rw [ku_f _ _ _ _ (by decide)]; exact h4),
    (by rw [ku_f _ _ _ _ (by decide)]; exact h5),
    (by rw [ku_f _ _ _ _ (by decide)]; exact h6),
    (fun c hc => by
      have hc2 : c < σ 1 0 := by rw [ku_f _ _ _ _ (by decide)] at hc; exact hc
      have h := h7 c hc2
      have e11 : ku σ 42 j v 11 c = σ 11 c := ku_f _ _ _ _ (by decide)
      have e10 : ku σ 42 j v 10 c = σ 10 c := ku_f _ _ _ _ (by decide)
      omega),
    (fun c hc => by
      have hc2 : c < σ 2 0 := by rw [ku_f _ _ _ _ (by decide)] at hc; exact hc
      have h := h8 c hc2
      have e20 : ku σ 42 j v 20 c = σ 20 c := ku_f _ _ _ _ (by decide)
      have e21 : ku σ 42 j v 21 c = σ 21 c := ku_f _ _ _ _ (by decide)
      have e22 : ku σ 42 j v 22 c = σ 22 c := ku_f _ _ _ _ (by decide)
      have e23 : ku σ 42 j v 23 c = σ 23 c := ku_f _ _ _ _ (by decide)
      have e24 : ku σ 42 j v 24 c = σ 24 c := ku_f _ _ _ _ (by decide)
      have e30 : ku σ 42 j v 30 c = σ 30 c := ku_f _ _ _ _ (by decide)
      have e25 : ku σ 42 j v 25 c = σ 25 c := ku_f _ _ _ _ (by decide)
      have e4 : ku σ 42 j v 4 0 = σ 4 0 := ku_f _ _ _ _ (by decide)
      omega),
    (fun c r hc hr => by
      have hc2 : c < σ 2 0 := by rw [ku_f _ _ _ _ (by decide)] at hc; exact hc
      have h := h9 c r hc2 hr
      have e31 : ku σ 42 j v 31 (6 * c + r) = σ 31 (6 * c + r) := ku_f _ _ _ _ (by decide)
      have e32 : ku σ 42 j v 32 (6 * c + r) = σ 32 (6 * c + r) := ku_f _ _ _ _ (by decide)
      have e33 : ku σ 42 j v 33 (6 * c + r) = σ 33 (6 * c + r) := ku_f _ _ _ _ (by decide)
      omega),
    (fun c hc => by
      have hc2 : c < σ 3 0 := by rw [ku_f _ _ _ _ (by decide)] at hc; exact hc
      have h := h10 c hc2
      have e40 : ku σ 42 j v 40 c = σ 40 c := ku_f _ _ _ _ (by decide)
      have e41 : ku σ 42 j v 41 c = σ 41 c := ku_f _ _ _ _ (by decide)
      have e42 : ku σ 42 j v 42 c = if c = j then v else σ 42 c := ku_e _ _ _ _ _
      split at e42 <;> omega),
    (fun c hc => by
      have hc2 : c < σ 4 0 := by rw [ku_f _ _ _ _ (by decide)] at hc; exact hc
      have h := h11 c hc2
      have e50 : ku σ 42 j v 50 c = σ 50 c := ku_f _ _ _ _ (by decide)
      have e51 : ku σ 42 j v 51 c = σ 51 c := ku_f _ _ _ _ (by decide)
      have e52 : ku σ 42 j v 52 c = σ 52 c := ku_f _ _ _ _ (by decide)
      omega)⟩
theorem kB_p52 {σ : kS} {j v : Nat} (h : kB σ) (hv : v ≤ 102401) : kB (ku σ 52 j v) := by
  obtain ⟨h0, h1, h2, h3, h4, h5, h6, h7, h8, h9, h10, h11⟩ := h
  exact ⟨(by rw [ku_f _ _ _ _ (by decide)]; exact h0),
    (by rw [ku_f _ _ _ _ (by decide)]; exact h1),
    (by rw [ku_f _ _ _ _ (by decide)]; exact h2),
    (by rw [ku_f _ _ _ _ (by decide)]; exact h3),
    (by rw [ku_f _ _ _ _ (by decide)]; exact h4),
    (by rw [ku_f _ _ _ _ (by decide)]; exact h5),
    (by rw [ku_f _ _ _ _ (by decide)]; exact h6),
    (fun c hc => by
      have hc2 : c < σ 1 0 := by rw [ku_f _ _ _ _ (by decide)] at hc; exact hc
      have h := h7 c hc2
      have e11 : ku σ 52 j v 11 c = σ 11 c := ku_f _ _ _ _ (by decide)
      have e10 : ku σ 52 j v 10 c = σ 10 c := ku_f _ _ _ _ (by decide)
      omega),
    (fun c hc => by
      have hc2 : c < σ 2 0 := by rw [ku_f _ _ _ _ (by decide)] at hc; exact hc
      have h := h8 c hc2
      have e20 : ku σ 52 j v 20 c = σ 20 c := ku_f _ _ _ _ (by decide)
      have e21 : ku σ 52 j v 21 c = σ 21 c := ku_f _ _ _ _ (by decide)
      have e22 : ku σ 52 j v 22 c = σ 22 c := ku_f _ _ _ _ (by decide)
      have e23 : ku σ 52 j v 23 c = σ 23 c := ku_f _ _ _ _ (by decide)
      have e24 : ku σ 52 j v 24 c = σ 24 c := ku_f _ _ _ _ (by decide)
      have e30 : ku σ 52 j v 30 c = σ 30 c := ku_f _ _ _ _ (by decide)
      have e25 : ku σ 52 j v 25 c = σ 25 c := ku_f _ _ _ _ (by decide)
      have e4 : ku σ 52 j v 4 0 = σ 4 0 := ku_f _ _ _ _ (by decide)
      omega),
    (fun c r hc hr => by
      have hc2 : c < σ 2 0 := by rw [ku_f _ _ _ _ (by decide)] at hc; exact hc
      have h := h9 c r hc2 hr
      have e31 : ku σ 52 j v 31 (6 * c + r) = σ 31 (6 * c + r) := ku_f _ _ _ _ (by decide)
      have e32 : ku σ 52 j v 32 (6 * c + r) = σ 32 (6 * c + r) := ku_f _ _ _ _ (by decide)
      have e33 : ku σ 52 j v 33 (6 * c + r) = σ 33 (6 * c + r) := ku_f _ _ _ _ (by decide)
      omega),
    (fun c hc => by
      have hc2 : c < σ 3 0 := by rw [ku_f _ _ _ _ (by decide)] at hc; exact hc
      have h := h10 c hc2
      have e40 : ku σ 52 j v 40 c = σ 40 c := ku_f _ _ _ _ (by decide)
      have e41 : ku σ 52 j v 41 c = σ 41 c := ku_f _ _ _ _ (by decide)
      have e42 : ku σ 52 j v 42 c = σ 42 c := ku_f _ _ _ _ (by decide)
      omega),
    (fun c hc => by
      have hc2 : c < σ 4 0 := by rw [ku_f _ _ _ _ (by decide)] at hc; exact hc
      have h := h11 c hc2
      have e50 : ku σ 52 j v 50 c = σ 50 c := ku_f _ _ _ _ (by decide)
      have e51 : ku σ 52 j v 51 c = σ 51 c := ku_f _ _ _ _ (by decide)
      have e52 : ku σ 52 j v 52 c = if c = j then v else σ 52 c := ku_e _ _ _ _ _
      split at e52 <;> omega)⟩
theorem kcnt_t {p : Nat → Bool} {n : Nat} (h : p n = true) : kcnt p (n + 1) = kcnt p n + 1 := by
  show kcnt p n + (if p n then 1 else 0) = _
  rw [if_pos h]
theorem kcnt_f {p : Nat → Bool} {n : Nat} (h : p n = false) : kcnt p (n + 1) = kcnt p n := by
  show kcnt p n + (if p n then 1 else 0) = _
  rw [h]
  rfl
/-! ===== folds over checks and regions ===== -/
def kFr (L : List Nat) (σ τ : kS) : Prop := ∀ g j, g ∉ L → τ g j = σ g j
def kPin (L : List Nat) (σ τ : kS) : Prop := kB τ ∧ kFr L σ τ
theorem kPin.rf {L : List Nat} {σ : kS} (h : kB σ) : kPin L σ σ := ⟨h, fun _ _ _ => rfl⟩
theorem kFor_inv {P : kS → Prop} {f : Nat → kS → kS} {n : Nat} {σ : kS} (h0 : P σ) (h : ∀ i τ, i < n → P τ → P (f i τ)) : ∀ k, k ≤ n → P (kFor f k σ) := by
  intro k
  induction k with
  | zero => exact fun _ => h0
  | succ k ih => exact fun hk => h k _ hk (ih (Nat.le_of_succ_le hk))
theorem kTrm_lt (σ : kS) (c : Nat) : ∀ n, n ≤ 6 → kTrm σ c n < 64 := by
  intro n
  induction n with
  | zero => exact fun _ => (show (0 : Nat) < 64 by decide)
  | succ n ih => exact fun hn => kwr_lt n hn _ (ih (Nat.le_of_succ_le hn)) _
theorem kVd_le (q t : Nat) (v : Nat → Nat) : kVd q t v ≤ 2 := by
  unfold kVd
  split
  · omega
  · split <;> omega
abbrev kLp : List Nat := [12, 13, 31, 32, 33]
theorem kMake_fr (σ : kS) (c r : Nat) : kFr kLp σ (kMake σ c r) := by
  intro g j hg
  simp only [List.mem_cons, List.not_mem_nil, or_false, not_or] at hg
  obtain ⟨h1, h2, h3, h4, h5⟩ := hg
  unfold kMake kTakeF kTakeS
  split
  · split
    · rw [ku_f _ _ _ _ h4, ku_f _ _ _ _ h2, ku_f _ _ _ _ h1]
    · split
      · rw [ku_f _ _ _ _ h3, ku_f _ _ _ _ h4, ku_f _ _ _ _ h2, ku_f _ _ _ _ h1]
      · rw [ku_f _ _ _ _ h5, ku_f _ _ _ _ h4, ku_f _ _ _ _ h4, ku_f _ _ _ _ h2, ku_f _ _ _ _ h1]
  · rw [ku_f _ _ _ _ h3, ku_f _ _ _ _ h4, ku_f _ _ _ _ h1]
theorem kPrb_fr (σ : kS) (c r : Nat) : kFr kLp σ (kPrb σ c r) := by
  unfold kPrb
  split
  · exact kMake_fr σ c r
  · exact fun _ _ _ => rfl
theorem kMake_B {σ : kS} (h : kB σ) {c r : Nat} (hc : c < σ 2 0) (hr : r < σ 1 0) : kB (kMake σ c r) := by
  have hm := h.min
  have hk := h.ck c hc
  have hc8 := h.c8 hc
  have hr6 := h.r6 hr
  have hp := h.pr c r hc hr6
  unfold kMake kTakeF kTakeS
  split
  · have h2 : kB (ku (ku σ 12 r (σ 12 r + 1)) 13 r (σ 13 r + 1)) := kB_p13 (kB_p12 h)
    split
    · exact kB_p32 h2 (by omega)
    · split
      · exact kB_p31 (kB_p32 h2 (by omega)) (by omega)
      · rename_i hn1 hn2
        have e1 : (ku (ku σ 12 r (σ 12 r + 1)) 13 r (σ 13 r + 1)) 22 c = σ 22 c := by rw [ku_f _ _ _ _ (by decide), ku_f _ _ _ _ (by decide)]
        have e2 : (ku (ku σ 12 r (σ 12 r + 1)) 13 r (σ 13 r + 1)) 32 (6 * c + r) = σ 32 (6 * c + r) := by rw [ku_f _ _ _ _ (by decide), ku_f _ _ _ _ (by decide)]
        rw [e1, e2] at hn2
        rw [e2]
        exact kB_p33 (kB_p32 (kB_p32 h2 (by omega)) (by omega)) (by omega)
  · exact kB_p31 (kB_p32 (kB_p12 h) (by omega)) (by omega)
theorem kPrb_in {σ τ : kS} (h : kPin kLp σ τ) {c r : Nat} (hc : c < σ 2 0) (hr : r < σ 1 0) : kPin kLp σ (kPrb τ c r) := by
  refine ⟨?_, fun g j hg => (kPrb_fr τ c r g j hg).trans (h.2 g j hg)⟩
  unfold kPrb
  split
  · exact kMake_B h.1 (by rw [h.2 2 0 (by decide)]; exact hc) (by rw [h.2 1 0 (by decide)]; exact hr)
  · exact h.1
theorem kPrbs_in {σ : kS} (h : kB σ) : kPin kLp σ (kPrbs σ) :=
  kFor_inv (P := kPin kLp σ) (kPin.rf h) (fun c τ hc hτ => kFor_inv (P := kPin kLp σ) hτ (fun r ρ hr hρ => kPrb_in hρ hc hr) _ (Nat.le_refl _)) _ (Nat.le_refl _)
theorem kJR_in {σ τ : kS} (h : kPin [15] σ τ) {r : Nat} (hr : r < σ 1 0) (b : Bool) : kPin [15] σ (ku τ 15 0 (kwr (τ 15 0) r b)) :=
  ⟨kB_p15 (j := 0) h.1 (kwr_lt r (by have := h.1.nR; rw [h.2 1 0 (by decide)] at this; omega) _ h.1.bad b), fun g j hg => (ku_f _ _ _ _ (by simpa using hg)).trans (h.2 g j hg)⟩
theorem kJRs_in {σ : kS} (h : kB σ) : kPin [15] σ (kJR σ) :=
  kFor_inv (P := kPin [15] σ) (kPin.rf h) (fun r τ hr hτ => kJR_in hτ hr _) _ (Nat.le_refl _)
theorem kJC_in {σ τ : kS} (h : kPin [24] σ τ) (c : Nat) : kPin [24] σ (ku τ 24 c (kVerd τ c)) :=
  ⟨kB_p24 h.1 (kVd_le _ _ _), fun g j hg => (ku_f _ _ _ _ (by simpa using hg)).trans (h.2 g j hg)⟩
theorem kJCs_in {σ : kS} (h : kB σ) : kPin [24] σ (kJC σ) :=
  kFor_inv (P := kPin [24] σ) (kPin.rf h) (fun c τ _ hτ => kJC_in hτ c) _ (Nat.le_refl _)
theorem kCt1_in {σ τ : kS} (h : kPin [26, 27] σ τ) (c : Nat) : kPin [26, 27] σ (kCt1 τ c) := by
  unfold kCt1
  split
  · exact ⟨kB_p27 h.1, fun g j hg => (ku_f _ _ _ _ (fun e => hg (by rw [e]; decide))).trans (h.2 g j hg)⟩
  · exact h
theorem kCt2_in {σ τ : kS} (h : kPin [26, 27] σ τ) (c : Nat) : kPin [26, 27] σ (kCt2 τ c) := by
  unfold kCt2
  split
  · exact ⟨kB_p26 h.1, fun g j hg => (ku_f _ _ _ _ (fun e => hg (by rw [e]; decide))).trans (h.2 g j hg)⟩
  · exact h
theorem kCts_in {σ : kS} (h : kB σ) : kPin [26, 27] σ (kCts σ) :=
  kFor_inv (P := kPin [26, 27] σ) (kPin.rf h) (fun c τ _ hτ => kCt2_in (kCt1_in hτ c) c) _ (Nat.le_refl _)
theorem kMnt_up {σ : kS} {c k n : Nat} (h : kMnt σ c k = true) (hk : k ≤ n) : kMnt σ c n = true := by
  induction n with
  | zero => rw [Nat.le_zero.mp hk] at h; exact h
  | succ n ih =>
    rcases Nat.lt_or_ge k (n + 1) with h2 | h2
    · show (kMnt σ c n || _) = true
      rw [ih (by omega)]
      rfl
    · have : k = n + 1 := by omega
      subst this
      exact h
