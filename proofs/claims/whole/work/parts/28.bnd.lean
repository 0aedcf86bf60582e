/-! ===== the bounds under a write ===== -/
theorem kB_p0 {σ : kS} {j v : Nat} (h : kB σ) (hv : v ≤ 102400) : kB (ku σ 0 0 v) := by
  obtain ⟨h0, h1, h2, h3, h4, h5, h6, h7, h8, h9, h10, h11⟩ := h
  exact ⟨(by rw [ku_s]; exact hv),
    (by rw [ku_f _ _ _ _ (by decide)]; exact h1),
    (by rw [ku_f _ _ _ _ (by decide)]; exact h2),
    (by rw [ku_f _ _ _ _ (by decide)]; exact h3),
    (by rw [ku_f _ _ _ _ (by decide)]; exact h4),
    (by rw [ku_f _ _ _ _ (by decide)]; exact h5),
    (by rw [ku_f _ _ _ _ (by decide)]; exact h6),
    (fun c hc => by
      have hc2 : c < σ 1 0 := by rw [ku_f _ _ _ _ (by decide)] at hc; exact hc
      have h := h7 c hc2
      have e11 : ku σ 0 0 v 11 c = σ 11 c := ku_f _ _ _ _ (by decide)
      have e10 : ku σ 0 0 v 10 c = σ 10 c := ku_f _ _ _ _ (by decide)
      omega),
    (fun c hc => by
      have hc2 : c < σ 2 0 := by rw [ku_f _ _ _ _ (by decide)] at hc; exact hc
      have h := h8 c hc2
      have e20 : ku σ 0 0 v 20 c = σ 20 c := ku_f _ _ _ _ (by decide)
      have e21 : ku σ 0 0 v 21 c = σ 21 c := ku_f _ _ _ _ (by decide)
      have e22 : ku σ 0 0 v 22 c = σ 22 c := ku_f _ _ _ _ (by decide)
      have e23 : ku σ 0 0 v 23 c = σ 23 c := ku_f _ _ _ _ (by decide)
      have e24 : ku σ 0 0 v 24 c = σ 24 c := ku_f _ _ _ _ (by decide)
      have e30 : ku σ 0 0 v 30 c = σ 30 c := ku_f _ _ _ _ (by decide)
      have e25 : ku σ 0 0 v 25 c = σ 25 c := ku_f _ _ _ _ (by decide)
      have e4 : ku σ 0 0 v 4 0 = σ 4 0 := ku_f _ _ _ _ (by decide)
      omega),
    (fun c r hc hr => by
      have hc2 : c < σ 2 0 := by rw [ku_f _ _ _ _ (by decide)] at hc; exact hc
      have h := h9 c r hc2 hr
      have e31 : ku σ 0 0 v 31 (6 * c + r) = σ 31 (6 * c + r) := ku_f _ _ _ _ (by decide)
      have e32 : ku σ 0 0 v 32 (6 * c + r) = σ 32 (6 * c + r) := ku_f _ _ _ _ (by decide)
      have e33 : ku σ 0 0 v 33 (6 * c + r) = σ 33 (6 * c + r) := ku_f _ _ _ _ (by decide)
      omega),
    (fun c hc => by
      have hc2 : c < σ 3 0 := by rw [ku_f _ _ _ _ (by decide)] at hc; exact hc
      have h := h10 c hc2
      have e40 : ku σ 0 0 v 40 c = σ 40 c := ku_f _ _ _ _ (by decide)
      have e41 : ku σ 0 0 v 41 c = σ 41 c := ku_f _ _ _ _ (by decide)
      have e42 : ku σ 0 0 v 42 c = σ 42 c := ku_f _ _ _ _ (by decide)
      omega),
    (fun c hc => by
      have hc2 : c < σ 4 0 := by rw [ku_f _ _ _ _ (by decide)] at hc; exact hc
      have h := h11 c hc2
      have e50 : ku σ 0 0 v 50 c = σ 50 c := ku_f _ _ _ _ (by decide)
      have e51 : ku σ 0 0 v 51 c = σ 51 c := ku_f _ _ _ _ (by decide)
      have e52 : ku σ 0 0 v 52 c = σ 52 c := ku_f _ _ _ _ (by decide)
      omega)⟩
theorem kB_p14 {σ : kS} {j v : Nat} (h : kB σ) (hv : v < 64) : kB (ku σ 14 0 v) := by
  obtain ⟨h0, h1, h2, h3, h4, h5, h6, h7, h8, h9, h10, h11⟩ := h
  exact ⟨(by rw [ku_f _ _ _ _ (by decide)]; exact h0),
    (by rw [ku_f _ _ _ _ (by decide)]; exact h1),
    (by rw [ku_f _ _ _ _ (by decide)]; exact h2),
    (by rw [ku_f _ _ _ _ (by decide)]; exact h3),
    (by rw [ku_f _ _ _ _ (by decide)]; exact h4),
    (by rw [ku_s]; exact hv),
    (by rw [ku_f _ _ _ _ (by decide)]; exact h6),
    (fun c hc => by
      have hc2 : c < σ 1 0 := by rw [ku_f _ _ _ _ (by decide)] at hc; exact hc
      have h := h7 c hc2
      have e11 : ku σ 14 0 v 11 c = σ 11 c := ku_f _ _ _ _ (by decide)
      have e10 : ku σ 14 0 v 10 c = σ 10 c := ku_f _ _ _ _ (by decide)
      omega),
    (fun c hc => by
      have hc2 : c < σ 2 0 := by rw [ku_f _ _ _ _ (by decide)] at hc; exact hc
      have h := h8 c hc2
      have e20 : ku σ 14 0 v 20 c = σ 20 c := ku_f _ _ _ _ (by decide)
      have e21 : ku σ 14 0 v 21 c = σ 21 c := ku_f _ _ _ _ (by decide)
      have e22 : ku σ 14 0 v 22 c = σ 22 c := ku_f _ _ _ _ (by decide)
      have e23 : ku σ 14 0 v 23 c = σ 23 c := ku_f _ _ _ _ (by decide)
      have e24 : ku σ 14 0 v 24 c = σ 24 c := ku_f _ _ _ _ (by decide)
      have e30 : ku σ 14 0 v 30 c = σ 30 c := ku_f _ _ _ _ (by decide)
      have e25 : ku σ 14 0 v 25 c = σ 25 c := ku_f _ _ _ _ (by decide)
      have e4 : ku σ 14 0 v 4 0 = σ 4 0 := ku_f _ _ _ _ (by decide)
      omega),
    (fun c r hc hr => by
      have hc2 : c < σ 2 0 := by rw [ku_f _ _ _ _ (by decide)] at hc; exact hc
      have h := h9 c r hc2 hr
      have e31 : ku σ 14 0 v 31 (6 * c + r) = σ 31 (6 * c + r) := ku_f _ _ _ _ (by decide)
      have e32 : ku σ 14 0 v 32 (6 * c + r) = σ 32 (6 * c + r) := ku_f _ _ _ _ (by decide)
      have e33 : ku σ 14 0 v 33 (6 * c + r) = σ 33 (6 * c + r) := ku_f _ _ _ _ (by decide)
      omega),
    (fun c hc => by
      have hc2 : c < σ 3 0 := by rw [ku_f _ _ _ _ (by decide)] at hc; exact hc
      have h := h10 c hc2
      have e40 : ku σ 14 0 v 40 c = σ 40 c := ku_f _ _ _ _ (by decide)
      have e41 : ku σ 14 0 v 41 c = σ 41 c := ku_f _ _ _ _ (by decide)
      have e42 : ku σ 14 0 v 42 c = σ 42 c := ku_f _ _ _ _ (by decide)
      omega),
    (fun c hc => by
      have hc2 : c < σ 4 0 := by rw [ku_f _ _ _ _ (by decide)] at hc; exact hc
      have h := h11 c hc2
      have e50 : ku σ 14 0 v 50 c = σ 50 c := ku_f _ _ _ _ (by decide)
      have e51 : ku σ 14 0 v 51 c = σ 51 c := ku_f _ _ _ _ (by decide)
      have e52 : ku σ 14 0 v 52 c = σ 52 c := ku_f _ _ _ _ (by decide)
      omega)⟩
theorem kB_p15 {σ : kS} {j v : Nat} (h : kB σ) (hv : v < 64) : kB (ku σ 15 0 v) := by
  obtain ⟨h0, h1, h2, h3, h4, h5, h6, h7, h8, h9, h10, h11⟩ := h
  exact ⟨(by rw [ku_f _ _ _ _ (by decide)]; exact h0),
    (by rw [ku_f _ _ _ _ (by decide)]; exact h1),
    (by rw [ku_f _ _ _ _ (by decide)]; exact h2),
    (by rw [ku_f _ _ _ _ (by decide)]; exact h3),
    (by rw [ku_f _ _ _ _ (by decide)]; exact h4),
    (by rw [ku_f _ _ _ _ (by decide)]; exact h5),
    (by rw [ku_s]; exact hv),
    (fun c hc => by
      have hc2 : c < σ 1 0 := by rw [ku_f _ _ _ _ (by decide)] at hc; exact hc
      have h := h7 c hc2
      have e11 : ku σ 15 0 v 11 c = σ 11 c := ku_f _ _ _ _ (by decide)
      have e10 : ku σ 15 0 v 10 c = σ 10 c := ku_f _ _ _ _ (by decide)
      omega),
    (fun c hc => by
      have hc2 : c < σ 2 0 := by rw [ku_f _ _ _ _ (by decide)] at hc; exact hc
      have h := h8 c hc2
      have e20 : ku σ 15 0 v 20 c = σ 20 c := ku_f _ _ _ _ (by decide)
      have e21 : ku σ 15 0 v 21 c = σ 21 c := ku_f _ _ _ _ (by decide)
      have e22 : ku σ 15 0 v 22 c = σ 22 c := ku_f _ _ _ _ (by decide)
      have e23 : ku σ 15 0 v 23 c = σ 23 c := ku_f _ _ _ _ (by decide)
      have e24 : ku σ 15 0 v 24 c = σ 24 c := ku_f _ _ _ _ (by decide)
      have e30 : ku σ 15 0 v 30 c = σ 30 c := ku_f _ _ _ _ (by decide)
      have e25 : ku σ 15 0 v 25 c = σ 25 c := ku_f _ _ _ _ (by decide)
      have e4 : ku σ 15 0 v 4 0 = σ 4 0 := ku_f _ _ _ _ (by decide)
      omega),
    (fun c r hc hr => by
      have hc2 : c < σ 2 0 := by rw [ku_f _ _ _ _ (by decide)] at hc; exact hc
      have h := h9 c r hc2 hr
      have e31 : ku σ 15 0 v 31 (6 * c + r) = σ 31 (6 * c + r) := ku_f _ _ _ _ (by decide)
      have e32 : ku σ 15 0 v 32 (6 * c + r) = σ 32 (6 * c + r) := ku_f _ _ _ _ (by decide)
      have e33 : ku σ 15 0 v 33 (6 * c + r) = σ 33 (6 * c + r) := ku_f _ _ _ _ (by decide)
      omega),
    (fun c hc => by
      have hc2 : c < σ 3 0 := by rw [ku_f _ _ _ _ (by decide)] at hc; exact hc
      have h := h10 c hc2
      have e40 : ku σ 15 0 v 40 c = σ 40 c := ku_f _ _ _ _ (by decide)
      have e41 : ku σ 15 0 v 41 c = σ 41 c := ku_f _ _ _ _ (by decide)
      have e42 : ku σ 15 0 v 42 c = σ 42 c := ku_f _ _ _ _ (by decide)
      omega),
    (fun c hc => by
      have hc2 : c < σ 4 0 := by rw [ku_f _ _ _ _ (by decide)] at hc; exact hc
      have h := h11 c hc2
      have e50 : ku σ 15 0 v 50 c = σ 50 c := ku_f _ _ _ _ (by decide)
      have e51 : ku σ 15 0 v 51 c = σ 51 c := ku_f _ _ _ _ (by decide)
      have e52 : ku σ 15 0 v 52 c = σ 52 c := ku_f _ _ _ _ (by decide)
      omega)⟩
theorem kB_p12 {σ : kS} {j v : Nat} (h : kB σ) : kB (ku σ 12 j v) := by
  obtain ⟨h0, h1, h2, h3, h4, h5, h6, h7, h8, h9, h10, h11⟩ := h
  exact ⟨(by rw [ku_f _ _ _ _ (by decide)]; exact h0),
    (by rw [ku_f _ _ _ _ (by decide)]; exact h1),
    (by rw [ku_f _ _ _ _ (by decide)]; exact h2),
    (by rw [ku_f _ _ _ _ (by decide)]; exact h3),
    (by rw [ku_f _ _ _ _ (by decide)]; exact h4),
    (by rw [ku_f _ _ _ _ (by decide)]; exact h5),
    (by rw [ku_f _ _ _ _ (by decide)]; exact h6),
    (fun c hc => by
      have hc2 : c < σ 1 0 := by rw [ku_f _ _ _ _ (by decide)] at hc; exact hc
      have h := h7 c hc2
      have e11 : ku σ 12 j v 11 c = σ 11 c := ku_f _ _ _ _ (by decide)
      have e10 : ku σ 12 j v 10 c = σ 10 c := ku_f _ _ _ _ (by decide)
      omega),
    (fun c hc => by
      have hc2 : c < σ 2 0 := by rw [ku_f _ _ _ _ (by decide)] at hc; exact hc
      have h := h8 c hc2
      have e20 : ku σ 12 j v 20 c = σ 20 c := ku_f _ _ _ _ (by decide)
      have e21 : ku σ 12 j v 21 c = σ 21 c := ku_f _ _ _ _ (by decide)
      have e22 : ku σ 12 j v 22 c = σ 22 c := ku_f _ _ _ _ (by decide)
      have e23 : ku σ 12 j v 23 c = σ 23 c := ku_f _ _ _ _ (by decide)
      have e24 : ku σ 12 j v 24 c = σ 24 c := ku_f _ _ _ _ (by decide)
      have e30 : ku σ 12 j v 30 c = σ 30 c := ku_f _ _ _ _ (by decide)
      have e25 : ku σ 12 j v 25 c = σ 25 c := ku_f _ _ _ _ (by decide)
      have e4 : ku σ 12 j v 4 0 = σ 4 0 := ku_f _ _ _ _ (by decide)
      omega),
    (fun c r hc hr => by
      have hc2 : c < σ 2 0 := by rw [ku_f _ _ _ _ (by decide)] at hc; exact hc
      have h := h9 c r hc2 hr
      have e31 : ku σ 12 j v 31 (6 * c + r) = σ 31 (6 * c + r) := ku_f _ _ _ _ (by decide)
      have e32 : ku σ 12 j v 32 (6 * c + r) = σ 32 (6 * c + r) := ku_f _ _ _ _ (by decide)
      have e33 : ku σ 12 j v 33 (6 * c + r) = σ 33 (6 * c + r) := ku_f _ _ _ _ (by decide)
      omega),
    (fun c hc => by
      have hc2 : c < σ 3 0 := by rw [ku_f _ _ _ _ (by decide)] at hc; exact hc
      have h := h10 c hc2
      have e40 : ku σ 12 j v 40 c = σ 40 c := ku_f _ _ _ _ (by decide)
      have e41 : ku σ 12 j v 41 c = σ 41 c := ku_f _ _ _ _ (by decide)
      have e42 : ku σ 12 j v 42 c = σ 42 c := ku_f _ _ _ _ (by decide)
      omega),
    (fun c hc => by
      have hc2 : c < σ 4 0 := by rw [ku_f _ _ _ _ (by decide)] at hc; exact hc
      have h := h11 c hc2
      have e50 : ku σ 12 j v 50 c = σ 50 c := ku_f _ _ _ _ (by decide)
      have e51 : ku σ 12 j v 51 c = σ 51 c := ku_f _ _ _ _ (by decide)
      have e52 : ku σ 12 j v 52 c = σ 52 c := ku_f _ _ _ _ (by decide)
      omega)⟩
theorem kB_p13 {σ : kS} {j v : Nat} (h : kB σ) : kB (ku σ 13 j v) := by
  obtain ⟨h0, h1, h2, h3, h4, h5, h6, h7, h8, h9, h10, h11⟩ := h
  exact ⟨(by rw [ku_f _ _ _ _ (by decide)]; exact h0),
    (by rw [ku_f _ _ _ _ (by decide)]; exact h1),
    (by rw [ku_f _ _ _ _ (by decide)]; exact h2),
    (by rw [ku_f _ _ _ _ (by decide)]; exact h3),
    (by rw [ku_f _ _ _ _ (by decide)]; exact h4),
    (by rw [ku_f _ _ _ _ (by decide)]; exact h5),
    (by rw [ku_f _ _ _ _ (by decide)]; exact h6),
    (fun c hc => by
      have hc2 : c < σ 1 0 := by rw [ku_f _ _ _ _ (by decide)] at hc; exact hc
      have h := h7 c hc2
      have e11 : ku σ 13 j v 11 c = σ 11 c := ku_f _ _ _ _ (by decide)
      have e10 : ku σ 13 j v 10 c = σ 10 c := ku_f _ _ _ _ (by decide)
      omega),
    (fun c hc => by
      have hc2 : c < σ 2 0 := by rw [ku_f _ _ _ _ (by decide)] at hc; exact hc
      have h := h8 c hc2
      have e20 : ku σ 13 j v 20 c = σ 20 c := ku_f _ _ _ _ (by decide)
      have e21 : ku σ 13 j v 21 c = σ 21 c := ku_f _ _ _ _ (by decide)
      have e22 : ku σ 13 j v 22 c = σ 22 c := ku_f _ _ _ _ (by decide)
      have e23 : ku σ 13 j v 23 c = σ 23 c := ku_f _ _ _ _ (by decide)
      have e24 : ku σ 13 j v 24 c = σ 24 c := ku_f _ _ _ _ (by decide)
      have e30 : ku σ 13 j v 30 c = σ 30 c := ku_f _ _ _ _ (by decide)
      have e25 : ku σ 13 j v 25 c = σ 25 c := ku_f _ _ _ _ (by decide)
      have e4 : ku σ 13 j v 4 0 = σ 4 0 := ku_f _ _ _ _ (by decide)
      omega),
    (fun c r hc hr => by
      have hc2 : c < σ 2 0 := by rw [ku_f _ _ _ _ (by decide)] at hc; exact hc
      have h := h9 c r hc2 hr
      have e31 : ku σ 13 j v 31 (6 * c + r) = σ 31 (6 * c + r) := ku_f _ _ _ _ (by decide)
      have e32 : ku σ 13 j v 32 (6 * c + r) = σ 32 (6 * c + r) := ku_f _ _ _ _ (by decide)
      have e33 : ku σ 13 j v 33 (6 * c + r) = σ 33 (6 * c + r) := ku_f _ _ _ _ (by decide)
      omega),
    (fun c hc => by
      have hc2 : c < σ 3 0 := by rw [ku_f _ _ _ _ (by decide)] at hc; exact hc
      have h := h10 c hc2
      have e40 : ku σ 13 j v 40 c = σ 40 c := ku_f _ _ _ _ (by decide)
      have e41 : ku σ 13 j v 41 c = σ 41 c := ku_f _ _ _ _ (by decide)
      have e42 : ku σ 13 j v 42 c = σ 42 c := ku_f _ _ _ _ (by decide)
      omega),
    (fun c hc => by
      have hc2 : c < σ 4 0 := by rw [ku_f _ _ _ _ (by decide)] at hc; exact hc
      have h := h11 c hc2
      have e50 : ku σ 13 j v 50 c = σ 50 c := ku_f _ _ _ _ (by decide)
      have e51 : ku σ 13 j v 51 c = σ 51 c := ku_f _ _ _ _ (by decide)
      have e52 : ku σ 13 j v 52 c = σ 52 c := ku_f _ _ _ _ (by decide)
      omega)⟩
theorem kB_p23 {σ : kS} {j v : Nat} (h : kB σ) (hv : 1 ≤ v ∧ v ≤ 6) : kB (ku σ 23 j v) := by
  obtain ⟨h0, h1, h2, h3, h4, h5, h6, h7, h8, h9, h10, h11⟩ := h
  exact ⟨(by rw [ku_f _ _ _ _ (by decide)]; exact h0),
    (by rw [ku_f _ _ _ _ (by decide)]; exact h1),
    (by rw [ku_f _ _ _ _ (by decide)]; exact h2),
    (by rw [ku_f _ _ _ _ (by decide)]; exact h3),
    (by rw [ku_f _ _ _ _ (by decide)]; exact h4),
    (by rw [ku_f _ _ _ _ (by decide)]; exact h5),
    (by rw [ku_f _ _ _ _ (by decide)]; exact h6),
    (fun c hc => by
      have hc2 : c < σ 1 0 := by rw [ku_f _ _ _ _ (by decide)] at hc; exact hc
      have h := h7 c hc2
      have e11 : ku σ 23 j v 11 c = σ 11 c := ku_f _ _ _ _ (by decide)
      have e10 : ku σ 23 j v 10 c = σ 10 c := ku_f _ _ _ _ (by decide)
      omega),
    (fun c hc => by
      have hc2 : c < σ 2 0 := by rw [ku_f _ _ _ _ (by decide)] at hc; exact hc
      have h := h8 c hc2
      have e20 : ku σ 23 j v 20 c = σ 20 c := ku_f _ _ _ _ (by decide)
      have e21 : ku σ 23 j v 21 c = σ 21 c := ku_f _ _ _ _ (by decide)
      have e22 : ku σ 23 j v 22 c = σ 22 c := ku_f _ _ _ _ (by decide)
      have e23 : ku σ 23 j v 23 c = if c = j then v else σ 23 c := ku_e _ _ _ _ _
      have e24 : ku σ 23 j v 24 c = σ 24 c := ku_f _ _ _ _ (by decide)
      have e30 : ku σ 23 j v 30 c = σ 30 c := ku_f _ _ _ _ (by decide)
      have e25 : ku σ 23 j v 25 c = σ 25 c := ku_f _ _ _ _ (by decide)
      have e4 : ku σ 23 j v 4 0 = σ 4 0 := ku_f _ _ _ _ (by decide)
      split at e23 <;> omega),
    (fun c r hc hr => by
      have hc2 : c < σ 2 0 := by rw [ku_f _ _ _ _ (by decide)] at hc; exact hc
      have h := h9 c r hc2 hr
      have e31 : ku σ 23 j v 31 (6 * c + r) = σ 31 (6 * c + r) := ku_f _ _ _ _ (by decide)
      have e32 : ku σ 23 j v 32 (6 * c + r) = σ 32 (6 * c + r) := ku_f _ _ _ _ (by decide)
      have e33 : ku σ 23 j v 33 (6 * c + r) = σ 33 (6 * c + r) := ku_f _ _ _ _ (by decide)
      omega),
    (fun c hc => by
      have hc2 : c < σ 3 0 := by rw [ku_f _ _ _ _ (by decide)] at hc; exact hc
      have h := h10 c hc2
      have e40 : ku σ 23 j v 40 c = σ 40 c := ku_f _ _ _ _ (by decide)
      have e41 : ku σ 23 j v 41 c = σ 41 c := ku_f _ _ _ _ (by decide)
      have e42 : ku σ 23 j v 42 c = σ 42 c := ku_f _ _ _ _ (by decide)
      omega),
    (fun c hc => by
      have hc2 : c < σ 4 0 := by rw [ku_f _ _ _ _ (by decide)] at hc; exact hc
      have h := h11 c hc2
      have e50 : ku σ 23 j v 50 c = σ 50 c := ku_f _ _ _ _ (by decide)
      have e51 : ku σ 23 j v 51 c = σ 51 c := ku_f _ _ _ _ (by decide)
      have e52 : ku σ 23 j v 52 c = σ 52 c := ku_f _ _ _ _ (by decide)
      omega)⟩
theorem kB_p24 {σ : kS} {j v : Nat} (h : kB σ) (hv : v ≤ 2) : kB (ku σ 24 j v) := by
  obtain ⟨h0, h1, h2, h3, h4, h5, h6, h7, h8, h9, h10, h11⟩ := h
  exact ⟨(by rw [ku_f _ _ _ _ (by decide)]; exact h0),
    (by rw [ku_f _ _ _ _ (by decide)]; exact h1),
    (by rw [ku_f _ _ _ _ (by decide)]; exact h2),
    (by rw [ku_f _ _ _ _ (by decide)]; exact h3),
    (by rw [ku_f _ _ _ _ (by decide)]; exact h4),
    (by rw [ku_f _ _ _ _ (by decide)]; exact h5),
    (by rw [ku_f _ _ _ _ (by decide)]; exact h6),
    (fun c hc => by
      have hc2 : c < σ 1 0 := by rw [ku_f _ _ _ _ (by decide)] at hc; exact hc
      have h := h7 c hc2
      have e11 : ku σ 24 j v 11 c = σ 11 c := ku_f _ _ _ _ (by decide)
      have e10 : ku σ 24 j v 10 c = σ 10 c := ku_f _ _ _ _ (by decide)
      omega),
    (fun c hc => by
      have hc2 : c < σ 2 0 := by rw [ku_f _ _ _ _ (by decide)] at hc; exact hc
      have h := h8 c hc2
      have e20 : ku σ 24 j v 20 c = σ 20 c := ku_f _ _ _ _ (by decide)
      have e21 : ku σ 24 j v 21 c = σ 21 c := ku_f _ _ _ _ (by decide)
      have e22 : ku σ 24 j v 22 c = σ 22 c := ku_f _ _ _ _ (by decide)
      have e23 : ku σ 24 j v 23 c = σ 23 c := ku_f _ _ _ _ (by decide)
      have e24 : ku σ 24 j v 24 c = if c = j then v else σ 24 c := ku_e _ _ _ _ _
      have e30 : ku σ 24 j v 30 c = σ 30 c := ku_f _ _ _ _ (by decide)
      have e25 : ku σ 24 j v 25 c = σ 25 c := ku_f _ _ _ _ (by decide)
      have e4 : ku σ 24 j v 4 0 = σ 4 0 := ku_f _ _ _ _ (by decide)
      split at e24 <;> omega),
    (fun c r hc hr => by
      have hc2 : c < σ 2 0 := by rw [ku_f _ _ _ _ (by decide)] at hc; exact hc
      have h := h9 c r hc2 hr
      have e31 : ku σ 24 j v 31 (6 * c + r) = σ 31 (6 * c + r) := ku_f _ _ _ _ (by decide)
      have e32 : ku σ 24 j v 32 (6 * c + r) = σ 32 (6 * c + r) := ku_f _ _ _ _ (by decide)
      have e33 : ku σ 24 j v 33 (6 * c + r) = σ 33 (6 * c + r) := ku_f _ _ _ _ (by decide)
      omega),
    (fun c hc => by
      have hc2 : c < σ 3 0 := by rw [ku_f _ _ _ _ (by decide)] at hc; exact hc
      have h := h10 c hc2
      have e40 : ku σ 24 j v 40 c = σ 40 c := ku_f _ _ _ _ (by decide)
      have e41 : ku σ 24 j v 41 c = σ 41 c := ku_f _ _ _ _ (by decide)
      have e42 : ku σ 24 j v 42 c = σ 42 c := ku_f _ _ _ _ (by decide)
      omega),
    (fun c hc => by
      have hc2 : c < σ 4 0 := by rw [ku_f _ _ _ _ (by decide)] at hc; exact hc
      have h := h11 c hc2
      have e50 : ku σ 24 j v 50 c = σ 50 c := ku_f _ _ _ _ (by decide)
      have e51 : ku σ 24 j v 51 c = σ 51 c := ku_f _ _ _ _ (by decide)
      have e52 : ku σ 24 j v 52 c = σ 52 c := ku_f _ _ _ _ (by decide)
      omega)⟩
theorem kB_p25 {σ : kS} {j v : Nat} (h : kB σ) (hv : v ≤ σ 4 0) : kB (ku σ 25 j v) := by
  obtain ⟨h0, h1, h2, h3, h4, h5, h6, h7, h8, h9, h10, h11⟩ := h
  exact ⟨(by rw [ku_f _ _ _ _ (by decide)]; exact h0),
    (by rw [ku_f _ _ _ _ (by decide)]; exact h1),
    (by rw [ku_f _ _ _ _ (by decide)]; exact h2),
    (by rw [ku_f _ _ _ _ (by decide)]; exact h3),
    (by rw [ku_f _ _ _ _ (by decide)]; exact h4),
    (by rw [ku_f _ _ _ _ (by decide)]; exact h5),
    (by rw [ku_f _ _ _ _ (by decide)]; exact h6),
    (fun c hc => by
      have hc2 : c < σ 1 0 := by rw [ku_f _ _ _ _ (by decide)] at hc; exact hc
      have h := h7 c hc2
      have e11 : ku σ 25 j v 11 c = σ 11 c := ku_f _ _ _ _ (by decide)
      have e10 : ku σ 25 j v 10 c = σ 10 c := ku_f _ _ _ _ (by decide)
      omega),
    (fun c hc => by
      have hc2 : c < σ 2 0 := by rw [ku_f _ _ _ _ (by decide)] at hc; exact hc
      have h := h8 c hc2
      have e20 : ku σ 25 j v 20 c = σ 20 c := ku_f _ _ _ _ (by decide)
      have e21 : ku σ 25 j v 21 c = σ 21 c := ku_f _ _ _ _ (by decide)
      have e22 : ku σ 25 j v 22 c = σ 22 c := ku_f _ _ _ _ (by decide)
      have e23 : ku σ 25 j v 23 c = σ 23 c := ku_f _ _ _ _ (by decide)
      have e24 : ku σ 25 j v 24 c = σ 24 c := ku_f _ _ _ _ (by decide)
      have e30 : ku σ 25 j v 30 c = σ 30 c := ku_f _ _ _ _ (by decide)
      have e25 : ku σ 25 j v 25 c = if c = j then v else σ 25 c := ku_e _ _ _ _ _
      have e4 : ku σ 25 j v 4 0 = σ 4 0 := ku_f _ _ _ _ (by decide)
      split at e25 <;> omega),
    (fun c r hc hr => by
      have hc2 : c < σ 2 0 := by rw [ku_f _ _ _ _ (by decide)] at hc; exact hc
      have h := h9 c r hc2 hr
      have e31 : ku σ 25 j v 31 (6 * c + r) = σ 31 (6 * c + r) := ku_f _ _ _ _ (by decide)
      have e32 : ku σ 25 j v 32 (6 * c + r) = σ 32 (6 * c + r) := ku_f _ _ _ _ (by decide)
      have e33 : ku σ 25 j v 33 (6 * c + r) = σ 33 (6 * c + r) := ku_f _ _ _ _ (by decide)
      omega),
    (fun c hc => by
      have hc2 : c < σ 3 0 := by rw [ku_f _ _ _ _ (by decide)] at hc; exact hc
      have h := h10 c hc2
      have e40 : ku σ 25 j v 40 c = σ 40 c := ku_f _ _ _ _ (by decide)
      have e41 : ku σ 25 j v 41 c = σ 41 c := ku_f _ _ _ _ (by decide)
      have e42 : ku σ 25 j v 42 c = σ 42 c := ku_f _ _ _ _ (by decide)
      omega),
    (fun c hc => by
      have hc2 : c < σ 4 0 := by rw [ku_f _ _ _ _ (by decide)] at hc; exact hc
      have h := h11 c hc2
      have e50 : ku σ 25 j v 50 c = σ 50 c := ku_f _ _ _ _ (by decide)
      have e51 : ku σ 25 j v 51 c = σ 51 c := ku_f _ _ _ _ (by decide)
      have e52 : ku σ 25 j v 52 c = σ 52 c := ku_f _ _ _ _ (by decide)
      omega)⟩
theorem kB_p26 {σ : kS} {j v : Nat} (h : kB σ) : kB (ku σ 26 j v) := by
  obtain ⟨h0, h1, h2, h3, h4, h5, h6, h7, h8, h9, h10, h11⟩ := h
  exact ⟨(by rw [ku_f _ _ _ _ (by decide)]; exact h0),
    (by rw [ku_f _ _ _ _ (by decide)]; exact h1),
    (by rw [ku_f _ _ _ _ (by decide)]; exact h2),
    (by rw [ku_f _ _ _ _ (by decide)]; exact h3),
    (by rw [ku_f _ _ _ _ (by decide)]; exact h4),
    (by rw [ku_f _ _ _ _ (by decide)]; exact h5),
    (by rw [ku_f _ _ _ _ (by decide)]; exact h6),
    (fun c hc => by
      have hc2 : c < σ 1 0 := by rw [ku_f _ _ _ _ (by decide)] at hc; exact hc
      have h := h7 c hc2
      have e11 : ku σ 26 j v 11 c = σ 11 c := ku_f _ _ _ _ (by decide)
      have e10 : ku σ 26 j v 10 c = σ 10 c := ku_f _ _ _ _ (by decide)
      omega),
    (fun c hc => by
      have hc2 : c < σ 2 0 := by rw [ku_f _ _ _ _ (by decide)] at hc; exact hc
      have h := h8 c hc2
      have e20 : ku σ 26 j v 20 c = σ 20 c := ku_f _ _ _ _ (by decide)
      have e21 : ku σ 26 j v 21 c = σ 21 c := ku_f _ _ _ _ (by decide)
      have e22 : ku σ 26 j v 22 c = σ 22 c := ku_f _ _ _ _ (by decide)
      have e23 : ku σ 26 j v 23 c = σ 23 c := ku_f _ _ _ _ (by decide)
      have e24 : ku σ 26 j v 24 c = σ 24 c := ku_f _ _ _ _ (by decide)
      have e30 : ku σ 26 j v 30 c = σ 30 c := ku_f _ _ _ _ (by decide)
      have e25 : ku σ 26 j v 25 c = σ 25 c := ku_f _ _ _ _ (by decide)
      have e4 : ku σ 26 j v 4 0 = σ 4 0 := ku_f _ _ _ _ (by decide)
      omega),
    (fun c r hc hr => by
      have hc2 : c < σ 2 0 := by rw [ku_f _ _ _ _ (by decide)] at hc; exact hc
      have h := h9 c r hc2 hr
      have e31 : ku σ 26 j v 31 (6 * c + r) = σ 31 (6 * c + r) := ku_f _ _ _ _ (by decide)
      have e32 : ku σ 26 j v 32 (6 * c + r) = σ 32 (6 * c + r) := ku_f _ _ _ _ (by decide)
      have e33 : ku σ 26 j v 33 (6 * c + r) = σ 33 (6 * c + r) := ku_f _ _ _ _ (by decide)
      omega),
    (fun c hc => by
      have hc2 : c < σ 3 0 := by rw [ku_f _ _ _ _ (by decide)] at hc; exact hc
      have h := h10 c hc2
      have e40 : ku σ 26 j v 40 c = σ 40 c := ku_f _ _ _ _ (by decide)
      have e41 : ku σ 26 j v 41 c = σ 41 c := ku_f _ _ _ _ (by decide)
      have e42 : ku σ 26 j v 42 c = σ 42 c := ku_f _ _ _ _ (by decide)
      omega),
    (fun c hc => by
      have hc2 : c < σ 4 0 := by rw [ku_f _ _ _ _ (by decide)] at hc; exact hc
      have h := h11 c hc2
      have e50 : ku σ 26 j v 50 c = σ 50 c := ku_f _ _ _ _ (by decide)
      have e51 : ku σ 26 j v 51 c = σ 51 c := ku_f _ _ _ _ (by decide)
      have e52 : ku σ 26 j v 52 c = σ 52 c := ku_f _ _ _ _ (by decide)
      omega)⟩
theorem kB_p27 {σ : kS} {j v : Nat} (h : kB σ) : kB (ku σ 27 j v) := by
  obtain ⟨h0, h1, h2, h3, h4, h5, h6, h7, h8, h9, h10, h11⟩ := h
  exact ⟨(by rw [ku_f _ _ _ _ (by decide)]; exact h0),
    (by rw [ku_f _ _ _ _ (by decide)]; exact h1),
    (by rw [ku_f _ _ _ _ (by decide)]; exact h2),
    (by rw [ku_f _ _ _ _ (by decide)]; exact h3),
    (by rw [ku_f _ _ _ _ (by decide)]; exact h4),
    (by rw [ku_f _ _ _ _ (by decide)]; exact h5),
    (by rw [ku_f _ _ _ _ (by decide)]; exact h6),
    (fun c hc => by
      have hc2 : c < σ 1 0 := by rw [ku_f _ _ _ _ (by decide)] at hc; exact hc
      have h := h7 c hc2
      have e11 : ku σ 27 j v 11 c = σ 11 c := ku_f _ _ _ _ (by decide)
      have e10 : ku σ 27 j v 10 c = σ 10 c := ku_f _ _ _ _ (by decide)
      omega),
    (fun c hc => by
      have hc2 : c < σ 2 0 := by rw [ku_f _ _ _ _ (by decide)] at hc; exact hc
      have h := h8 c hc2
      have e20 : ku σ 27 j v 20 c = σ 20 c := ku_f _ _ _ _ (by decide)
      have e21 : ku σ 27 j v 21 c = σ 21 c := ku_f _ _ _ _ (by decide)
      have e22 : ku σ 27 j v 22 c = σ 22 c := ku_f _ _ _ _ (by decide)
      have e23 : ku σ 27 j v 23 c = σ 23 c := ku_f _ _ _ _ (by decide)
      have e24 : ku σ 27 j v 24 c = σ 24 c := ku_f _ _ _ _ (by decide)
      have e30 : ku σ 27 j v 30 c = σ 30 c := ku_f _ _ _ _ (by decide)
      have e25 : ku σ 27 j v 25 c = σ 25 c := ku_f _ _ _ _ (by decide)
      have e4 : ku σ 27 j v 4 0 = σ 4 0 := ku_f _ _ _ _ (by decide)
      omega),
    (fun c r hc hr => by
      have hc2 : c < σ 2 0 := by rw [ku_f _ _ _ _ (by decide)] at hc; exact hc
      have h := h9 c r hc2 hr
      have e31 : ku σ 27 j v 31 (6 * c + r) = σ 31 (6 * c + r) := ku_f _ _ _ _ (by decide)
      have e32 : ku σ 27 j v 32 (6 * c + r) = σ 32 (6 * c + r) := ku_f _ _ _ _ (by decide)
      have e33 : ku σ 27 j v 33 (6 * c + r) = σ 33 (6 * c + r) := ku_f _ _ _ _ (by decide)
      omega),
    (fun c hc => by
      have hc2 : c < σ 3 0 := by rw [ku_f _ _ _ _ (by decide)] at hc; exact hc
      have h := h10 c hc2
      have e40 : ku σ 27 j v 40 c = σ 40 c := ku_f _ _ _ _ (by decide)
      have e41 : ku σ 27 j v 41 c = σ 41 c := ku_f _ _ _ _ (by decide)
      have e42 : ku σ 27 j v 42 c = σ 42 c := ku_f _ _ _ _ (by decide)
      omega),
    (fun c hc => by
      have hc2 : c < σ 4 0 := by rw [ku_f _ _ _ _ (by decide)] at hc; exact hc
      have h := h11 c hc2
      have e50 : ku σ 27 j v 50 c = σ 50 c := ku_f _ _ _ _ (by decide)
      have e51 : ku σ 27 j v 51 c = σ 51 c := ku_f _ _ _ _ (by decide)
      have e52 : ku σ 27 j v 52 c = σ 52 c := ku_f _ _ _ _ (by decide)
      omega)⟩
theorem kB_p30 {σ : kS} {j v : Nat} (h : kB σ) (hv : v < 64) : kB (ku σ 30 j v) := by
  obtain ⟨h0, h1, h2, h3, h4, h5, h6, h7, h8, h9, h10, h11⟩ := h
  exact ⟨(by rw [ku_f _ _ _ _ (by decide)]; exact h0),
    (by rw [ku_f _ _ _ _ (by decide)]; exact h1),
    (by rw [ku_f _ _ _ _ (by decide)]; exact h2),
    (by rw [ku_f _ _ _ _ (by decide)]; exact h3),
    (by rw [ku_f _ _ _ _ (by decide)]; exact h4),
    (by rw [ku_f _ _ _ _ (by decide)]; exact h5),
    (by rw [ku_f _ _ _ _ (by decide)]; exact h6),
    (fun c hc => by
      have hc2 : c < σ 1 0 := by rw [ku_f _ _ _ _ (by decide)] at hc; exact hc
      have h := h7 c hc2
      have e11 : ku σ 30 j v 11 c = σ 11 c := ku_f _ _ _ _ (by decide)
      have e10 : ku σ 30 j v 10 c = σ 10 c := ku_f _ _ _ _ (by decide)
      omega),
    (fun c hc => by
      have hc2 : c < σ 2 0 := by rw [ku_f _ _ _ _ (by decide)] at hc; exact hc
      have h := h8 c hc2
      have e20 : ku σ 30 j v 20 c = σ 20 c := ku_f _ _ _ _ (by decide)
      have e21 : ku σ 30 j v 21 c = σ 21 c := ku_f _ _ _ _ (by decide)
      have e22 : ku σ 30 j v 22 c = σ 22 c := ku_f _ _ _ _ (by decide)
      have e23 : ku σ 30 j v 23 c = σ 23 c := ku_f _ _ _ _ (by decide)
      have e24 : ku σ 30 j v 24 c = σ 24 c := ku_f _ _ _ _ (by decide)
      have e30 : ku σ 30 j v 30 c = if c = j then v else σ 30 c := ku_e _ _ _ _ _
      have e25 : ku σ 30 j v 25 c = σ 25 c := ku_f _ _ _ _ (by decide)
      have e4 : ku σ 30 j v 4 0 = σ 4 0 := ku_f _ _ _ _ (by decide)
      split at e30 <;> omega),
    (fun c r hc hr => by
      have hc2 : c < σ 2 0 := by rw [ku_f _ _ _ _ (by decide)] at hc; exact hc
      have h := h9 c r hc2 hr
      have e31 : ku σ 30 j v 31 (6 * c + r) = σ 31 (6 * c + r) := ku_f _ _ _ _ (by decide)
      have e32 : ku σ 30 j v 32 (6 * c + r) = σ 32 (6 * c + r) := ku_f _ _ _ _ (by decide)
      have e33 : ku σ 30 j v 33 (6 * c + r) = σ 33 (6 * c + r) := ku_f _ _ _ _ (by decide)
      omega),
    (fun c hc => by
      have hc2 : c < σ 3 0 := by rw [ku_f _ _ _ _ (by decide)] at hc; exact hc
      have h := h10 c hc2
      have e40 : ku σ 30 j v 40 c = σ 40 c := ku_f _ _ _ _ (by decide)
      have e41 : ku σ 30 j v 41 c = σ 41 c := ku_f _ _ _ _ (by decide)
      have e42 : ku σ 30 j v 42 c = σ 42 c := ku_f _ _ _ _ (by decide)
      omega),
    (fun c hc => by
      have hc2 : c < σ 4 0 := by rw [ku_f _ _ _ _ (by decide)] at hc; exact hc
      have h := h11 c hc2
      have e50 : ku σ 30 j v 50 c = σ 50 c := ku_f _ _ _ _ (by decide)
      have e51 : ku σ 30 j v 51 c = σ 51 c := ku_f _ _ _ _ (by decide)
      have e52 : ku σ 30 j v 52 c = σ 52 c := ku_f _ _ _ _ (by decide)
      omega)⟩
theorem kB_p31 {σ : kS} {j v : Nat} (h : kB σ) (hv : v ≤ 2) : kB (ku σ 31 j v) := by
  obtain ⟨h0, h1, h2, h3, h4, h5, h6, h7, h8, h9, h10, h11⟩ := h
  exact ⟨(by rw [ku_f _ _ _ _ (by decide)]; exact h0),
    (by rw [ku_f _ _ _ _ (by decide)]; exact h1),
    (by rw [ku_f _ _ _ _ (by decide)]; exact h2),
    (by rw [ku_f _ _ _ _ (by decide)]; exact h3),
    (by rw [ku_f _ _ _ _ (by decide)]; exact h4),
    (by rw [ku_f _ _ _ _ (by decide)]; exact h5),
    (by rw [ku_f _ _ _ _ (by decide)]; exact h6),
    (fun c hc => by
      have hc2 : c < σ 1 0 := by rw [ku_f _ _ _ _ (by decide)] at hc; exact hc
      have h := h7 c hc2
      have e11 : ku σ 31 j v 11 c = σ 11 c := ku_f _ _ _ _ (by decide)
      have e10 : ku σ 31 j v 10 c = σ 10 c := ku_f _ _ _ _ (by decide)
      omega),
    (fun c hc => by
      have hc2 : c < σ 2 0 := by rw [ku_f _ _ _ _ (by decide)] at hc; exact hc
      have h := h8 c hc2
      have e20 : ku σ 31 j v 20 c = σ 20 c := ku_f _ _ _ _ (by decide)
      have e21 : ku σ 31 j v 21 c = σ 21 c := ku_f _ _ _ _ (by decide)
      have e22 : ku σ 31 j v 22 c = σ 22 c := ku_f _ _ _ _ (by decide)
      have e23 : ku σ 31 j v 23 c = σ 23 c := ku_f _ _ _ _ (by decide)
      have e24 : ku σ 31 j v 24 c = σ 24 c := ku_f _ _ _ _ (by decide)
      have e30 : ku σ 31 j v 30 c = σ 30 c := ku_f _ _ _ _ (by decide)
      have e25 : ku σ 31 j v 25 c = σ 25 c := ku_f _ _ _ _ (by decide)
      have e4 : ku σ 31 j v 4 0 = σ 4 0 := ku_f _ _ _ _ (by decide)
      omega),
    (fun c r hc hr => by
      have hc2 : c < σ 2 0 := by rw [ku_f _ _ _ _ (by decide)] at hc; exact hc
      have h := h9 c r hc2 hr
      have e31 : ku σ 31 j v 31 (6 * c + r) = if (6 * c + r) = j then v else σ 31 (6 * c + r) := ku_e _ _ _ _ _
      have e32 : ku σ 31 j v 32 (6 * c + r) = σ 32 (6 * c + r) := ku_f _ _ _ _ (by decide)
      have e33 : ku σ 31 j v 33 (6 * c + r) = σ 33 (6 * c + r) := ku_f _ _ _ _ (by decide)
      split at e31 <;> omega),
    (fun c hc => by
      have hc2 : c < σ 3 0 := by rw [ku_f _ _ _ _ (by decide)] at hc; exact hc
      have h := h10 c hc2
      have e40 : ku σ 31 j v 40 c = σ 40 c := ku_f _ _ _ _ (by decide)
      have e41 : ku σ 31 j v 41 c = σ 41 c := ku_f _ _ _ _ (by decide)
      have e42 : ku σ 31 j v 42 c = σ 42 c := ku_f _ _ _ _ (by decide)
      omega),
    (fun c hc => by
      have hc2 : c < σ 4 0 := by rw [ku_f _ _ _ _ (by decide)] at hc; exact hc
      have h := h11 c hc2
      have e50 : ku σ 31 j v 50 c = σ 50 c := ku_f _ _ _ _ (by decide)
      have e51 : ku σ 31 j v 51 c = σ 51 c := ku_f _ _ _ _ (by decide)
      have e52 : ku σ 31 j v 52 c = σ 52 c := ku_f _ _ _ _ (by decide)
      omega)⟩
theorem kB_p32 {σ : kS} {j v : Nat} (h : kB σ) (hv : v ≤ 3) : kB (ku σ 32 j v) := by
  obtain ⟨h0, h1, h2, h3, h4, h5, h6, h7, h8, h9, h10, h11⟩ := h
  exact ⟨(by rw [ku_f _ _ _ _ (by decide)]; exact h0),
    (by rw [ku_f _ _ _ _ (by decide)]; exact h1),
    (by rw [ku_f _ _ _ _ (by decide)]; exact h2),
    (by rw [ku_f _ _ _ _ (by decide)]; exact h3),
    (by rw [ku_f _ _ _ _ (by decide)]; exact h4),
    (by rw [ku_f _ _ _ _ (by decide)]; exact h5),
    (by rw [ku_f _ _ _ _ (by decide)]; exact h6),
    (fun c hc => by
      have hc2 : c < σ 1 0 := by rw [ku_f _ _ _ _ (by decide)] at hc; exact hc
      have h := h7 c hc2
      have e11 : ku σ 32 j v 11 c = σ 11 c := ku_f _ _ _ _ (by decide)
      have e10 : ku σ 32 j v 10 c = σ 10 c := ku_f _ _ _ _ (by decide)
      omega),
    (fun c hc => by
      have hc2 : c < σ 2 0 := by rw [ku_f _ _ _ _ (by decide)] at hc; exact hc
      have h := h8 c hc2
      have e20 : ku σ 32 j v 20 c = σ 20 c := ku_f _ _ _ _ (by decide)
      have e21 : ku σ 32 j v 21 c = σ 21 c := ku_f _ _ _ _ (by decide)
      have e22 : ku σ 32 j v 22 c = σ 22 c := ku_f _ _ _ _ (by decide)
      have e23 : ku σ 32 j v 23 c = σ 23 c := ku_f _ _ _ _ (by decide)
      have e24 : ku σ 32 j v 24 c = σ 24 c := ku_f _ _ _ _ (by decide)
      have e30 : ku σ 32 j v 30 c = σ 30 c := ku_f _ _ _ _ (by decide)
      have e25 : ku σ 32 j v 25 c = σ 25 c := ku_f _ _ _ _ (by decide)
      have e4 : ku σ 32 j v 4 0 = σ 4 0 := ku_f _ _ _ _ (by decide)
      omega),
    (fun c r hc hr => by
      have hc2 : c < σ 2 0 := by rw [ku_f _ _ _ _ (by decide)] at hc; exact hc
      have h := h9 c r hc2 hr
      have e31 : ku σ 32 j v 31 (6 * c + r) = σ 31 (6 * c + r) := ku_f _ _ _ _ (by decide)
      have e32 : ku σ 32 j v 32 (6 * c + r) = if (6 * c + r) = j then v else σ 32 (6 * c + r) := ku_e _ _ _ _ _
      have e33 : ku σ 32 j v 33 (6 * c + r) = σ 33 (6 * c + r) := ku_f _ _ _ _ (by decide)
      split at e32 <;> omega),
    (fun c hc => by
      have hc2 : c < σ 3 0 := by rw [ku_f _ _ _ _ (by decide)] at hc; exact hc
      have h := h10 c hc2
      have e40 : ku σ 32 j v 40 c = σ 40 c := ku_f _ _ _ _ (by decide)
      have e41 : ku σ 32 j v 41 c = σ 41 c := ku_f _ _ _ _ (by decide)
      have e42 : ku σ 32 j v 42 c = σ 42 c := ku_f _ _ _ _ (by decide)
      omega),
    (fun c hc => by
      have hc2 : c < σ 4 0 := by rw [ku_f _ _ _ _ (by decide)] at hc; exact hc
      have h := h11 c hc2
      have e50 : ku σ 32 j v 50 c = σ 50 c := ku_f _ _ _ _ (by decide)
      have e51 : ku σ 32 j v 51 c = σ 51 c := ku_f _ _ _ _ (by decide)
      have e52 : ku σ 32 j v 52 c = σ 52 c := ku_f _ _ _ _ (by decide)
      omega)⟩
theorem kB_p33 {σ : kS} {j v : Nat} (h : kB σ) (hv : v ≤ 200000) : kB (ku σ 33 j v) := by
  obtain ⟨h0, h1, h2, h3, h4, h5, h6, h7, h8, h9, h10, h11⟩ := h
  exact ⟨(by rw [ku_f _ _ _ _ (by decide)]; exact h0),
    (by rw [ku_f _ _ _ _ (by decide)]; exact h1),
    (by rw [ku_f _ _ _ _ (by decide)]; exact h2),
    (by rw [ku_f _ _ _ _ (by decide)]; exact h3),
    (by rw [ku_f _ _ _ _ (by decide)]; exact h4),
    (by rw [ku_f _ _ _ _ (by decide)]; exact h5),
    (by rw [ku_f _ _ _ _ (by decide)]; exact h6),
    (fun c hc => by
      have hc2 : c < σ 1 0 := by rw [ku_f _ _ _ _ (by decide)] at hc; exact hc
      have h := h7 c hc2
      have e11 : ku σ 33 j v 11 c = σ 11 c := ku_f _ _ _ _ (by decide)
      have e10 : ku σ 33 j v 10 c = σ 10 c := ku_f _ _ _ _ (by decide)
      omega),
    (fun c hc => by
      have hc2 : c < σ 2 0 := by rw [ku_f _ _ _ _ (by decide)] at hc; exact hc
      have h := h8 c hc2
      have e20 : ku σ 33 j v 20 c = σ 20 c := ku_f _ _ _ _ (by decide)
      have e21 : ku σ 33 j v 21 c = σ 21 c := ku_f _ _ _ _ (by decide)
      have e22 : ku σ 33 j v 22 c = σ 22 c := ku_f _ _ _ _ (by decide)
      have e23 : ku σ 33 j v 23 c = σ 23 c := ku_f _ _ _ _ (by decide)
      have e24 : ku σ 33 j v 24 c = σ 24 c := ku_f _ _ _ _ (by decide)
      have e30 : ku σ 33 j v 30 c = σ 30 c := ku_f _ _ _ _ (by decide)
      have e25 : ku σ 33 j v 25 c = σ 25 c := ku_f _ _ _ _ (by decide)
      have e4 : ku σ 33 j v 4 0 = σ 4 0 := ku_f _ _ _ _ (by decide)
      omega),
    (fun c r hc hr => by
      have hc2 : c < σ 2 0 := by rw [ku_f _ _ _ _ (by decide)] at hc; exact hc
      have h := h9 c r hc2 hr
      have e31 : ku σ 33 j v 31 (6 * c + r) = σ 31 (6 * c + r) := ku_f _ _ _ _ (by decide)
      have e32 : ku σ 33 j v 32 (6 * c + r) = σ 32 (6 * c + r) := ku_f _ _ _ _ (by decide)
      have e33 : ku σ 33 j v 33 (6 * c + r) = if (6 * c + r) = j then v else σ 33 (6 * c + r) := ku_e _ _ _ _ _
      split at e33 <;> omega),
    (fun c hc => by
      have hc2 : c < σ 3 0 := by rw [ku_f _ _ _ _ (by decide)] at hc; exact hc
      have h := h10 c hc2
      have e40 : ku σ 33 j v 40 c = σ 40 c := ku_f _ _ _ _ (by decide)
      have e41 : ku σ 33 j v 41 c = σ 41 c := ku_f _ _ _ _ (by decide)
      have e42 : ku σ 33 j v 42 c = σ 42 c := ku_f _ _ _ _ (by decide)
      omega),
    (fun c hc => by
      have hc2 : c < σ 4 0 := by rw [ku_f _ _ _ _ (by decide)] at hc; exact hc
      have h := h11 c hc2
      have e50 : ku σ 33 j v 50 c = σ 50 c := ku_f _ _ _ _ (by decide)
      have e51 : ku σ 33 j v 51 c = σ 51 c := ku_f _ _ _ _ (by decide)
      have e52 : ku σ 33 j v 52 c = σ 52 c := ku_f _ _ _ _ (by decide)
      omega)⟩
theorem kB_p42 {σ : kS} {j v : Nat} (h : kB σ) (hv : v ≤ 120000) : kB (ku σ 42 j v) := by
  obtain ⟨h0, h1, h2, h3, h4, h5, h6, h7, h8, h9, h10, h11⟩ := h
  exact ⟨(by rw [ku_f _ _ _ _ (by decide)]; exact h0),
    (by rw [ku_f _ _ _ _ (by decide)]; exact h1),
    (by rw [ku_f _ _ _ _ (by decide)]; exact h2),
    (by rw [ku_f _ _ _ _ (by decide)]; exact h3),
    (by rw [ku_f _ _ _ _ (by decide)]; exact h4),
    (by rw [ku_f _ _ _ _ (by decide)]; exact h5),
    (by rw [ku_f _ _ _ _ (by decide)]; exact h6),
    (fun c hc => by
      have hc2 : c < σ 1 0 := by rw [ku_f _ _ _ _ (by decide)] at hc; exact hc
      have h := h7 c hc2
      have e11 : ku σ 42 j v 11 c = σ 11 c := ku_f _ _ _ _ (by decide)
      have e10 : ku σ 42 j v 10 c = σ 10 c := ku_f _ _ _ _ (by decide)
      omega),
    (fun c hc => by
      have hc2 : c < σ 2 0 := by rw [ku_f _ _ _ _ (by decide)] at hc; exact hc
      have h := h8 c hc2
      have e20 : ku σ 42 j v 20 c = σ 20 c := ku_f _ _ _ _ (by decide)
      have e21 : ku σ 42 j v 21 c = σ 21 c := ku_f _ _ _ _ (by decide)
      have e22 : ku σ 42 j v 22 c = σ 22 c := ku_f _ _ _ _ (by decide)
      have e23 : ku σ 42 j v 23 c = σ 23 c := ku_f _ _ _ _ (by decide)
      have e24 : ku σ 42 j v 24 c = σ 24 c := ku_f _ _ _ _ (by decide)
      have e30 : ku σ 42 j v 30 c = σ 30 c := ku_f _ _ _ _ (by decide)
      have e25 : ku σ 42 j v 25 c = σ 25 c := ku_f _ _ _ _ (by decide)
      have e4 : ku σ 42 j v 4 0 = σ 4 0 := ku_f _ _ _ _ (by decide)
      omega),
    (fun c r hc hr => by
      have hc2 : c < σ 2 0 := by rw [ku_f _ _ _ _ (by decide)] at hc; exact hc
      have h := h9 c r hc2 hr
      have e31 : ku σ 42 j v 31 (6 * c + r) = σ 31 (6 * c + r) := ku_f _ _ _ _ (by decide)
      have e32 : ku σ 42 j v 32 (6 * c + r) = σ 32 (6 * c + r) := ku_f _ _ _ _ (by decide)
      have e33 : ku σ 42 j v 33 (6 * c + r) = σ 33 (6 * c + r) := ku_f _ _ _ _ (by decide)
      omega),
    (fun c hc => by
      have hc2 : c < σ 3 0 := by rw [ku_f _ _ _ _ (by decide)] at hc; exact hc
      have h := h10 c hc2
      have e40 : ku σ 42 j v 40 c = σ 40 c := ku_f _ _ _ _ (by decide)
      have e41 : ku σ 42 j v 41 c = σ 41 c := ku_f _ _ _ _ (by decide)
      have e42 : ku σ 42 j v 42 c = if c = j then v else σ 42 c := ku_e _ _ _ _ _
      split at e42 <;> omega),
    (fun c hc => by
      have hc2 : c < σ 4 0 := by rw [ku_f _ _ _ _ (by decide)] at hc; exact hc
      have h := h11 c hc2
      have e50 : ku σ 42 j v 50 c = σ 50 c := ku_f _ _ _ _ (by decide)
      have e51 : ku σ 42 j v 51 c = σ 51 c := ku_f _ _ _ _ (by decide)
      have e52 : ku σ 42 j v 52 c = σ 52 c := ku_f _ _ _ _ (by decide)
      omega)⟩
theorem kB_p52 {σ : kS} {j v : Nat} (h : kB σ) (hv : v ≤ 102401) : kB (ku σ 52 j v) := by
  obtain ⟨h0, h1, h2, h3, h4, h5, h6, h7, h8, h9, h10, h11⟩ := h
  exact ⟨(by rw [ku_f _ _ _ _ (by decide)]; exact h0),
    (by rw [ku_f _ _ _ _ (by decide)]; exact h1),
    (by rw [ku_f _ _ _ _ (by decide)]; exact h2),
    (by rw [ku_f _ _ _ _ (by decide)]; exact h3),
    (by rw [ku_f _ _ _ _ (by decide)]; exact h4),
    (by rw [ku_f _ _ _ _ (by decide)]; exact h5),
    (by rw [ku_f _ _ _ _ (by decide)]; exact h6),
    (fun c hc => by
      have hc2 : c < σ 1 0 := by rw [ku_f _ _ _ _ (by decide)] at hc; exact hc
      have h := h7 c hc2
      have e11 : ku σ 52 j v 11 c = σ 11 c := ku_f _ _ _ _ (by decide)
      have e10 : ku σ 52 j v 10 c = σ 10 c := ku_f _ _ _ _ (by decide)
      omega),
    (fun c hc => by
      have hc2 : c < σ 2 0 := by rw [ku_f _ _ _ _ (by decide)] at hc; exact hc
      have h := h8 c hc2
      have e20 : ku σ 52 j v 20 c = σ 20 c := ku_f _ _ _ _ (by decide)
      have e21 : ku σ 52 j v 21 c = σ 21 c := ku_f _ _ _ _ (by decide)
      have e22 : ku σ 52 j v 22 c = σ 22 c := ku_f _ _ _ _ (by decide)
      have e23 : ku σ 52 j v 23 c = σ 23 c := ku_f _ _ _ _ (by decide)
      have e24 : ku σ 52 j v 24 c = σ 24 c := ku_f _ _ _ _ (by decide)
      have e30 : ku σ 52 j v 30 c = σ 30 c := ku_f _ _ _ _ (by decide)
      have e25 : ku σ 52 j v 25 c = σ 25 c := ku_f _ _ _ _ (by decide)
      have e4 : ku σ 52 j v 4 0 = σ 4 0 := ku_f _ _ _ _ (by decide)
      omega),
    (fun c r hc hr => by
      have hc2 : c < σ 2 0 := by rw [ku_f _ _ _ _ (by decide)] at hc; exact hc
      have h := h9 c r hc2 hr
      have e31 : ku σ 52 j v 31 (6 * c + r) = σ 31 (6 * c + r) := ku_f _ _ _ _ (by decide)
      have e32 : ku σ 52 j v 32 (6 * c + r) = σ 32 (6 * c + r) := ku_f _ _ _ _ (by decide)
      have e33 : ku σ 52 j v 33 (6 * c + r) = σ 33 (6 * c + r) := ku_f _ _ _ _ (by decide)
      omega),
    (fun c hc => by
      have hc2 : c < σ 3 0 := by rw [ku_f _ _ _ _ (by decide)] at hc; exact hc
      have h := h10 c hc2
      have e40 : ku σ 52 j v 40 c = σ 40 c := ku_f _ _ _ _ (by decide)
      have e41 : ku σ 52 j v 41 c = σ 41 c := ku_f _ _ _ _ (by decide)
      have e42 : ku σ 52 j v 42 c = σ 42 c := ku_f _ _ _ _ (by decide)
      omega),
    (fun c hc => by
      have hc2 : c < σ 4 0 := by rw [ku_f _ _ _ _ (by decide)] at hc; exact hc
      have h := h11 c hc2
      have e50 : ku σ 52 j v 50 c = σ 50 c := ku_f _ _ _ _ (by decide)
      have e51 : ku σ 52 j v 51 c = σ 51 c := ku_f _ _ _ _ (by decide)
      have e52 : ku σ 52 j v 52 c = if c = j then v else σ 52 c := ku_e _ _ _ _ _
      split at e52 <;> omega)⟩
theorem kcnt_t {p : Nat → Bool} {n : Nat} (h : p n = true) : kcnt p (n + 1) = kcnt p n + 1 := by
  show kcnt p n + (if p n then 1 else 0) = _
  rw [if_pos h]
theorem kcnt_f {p : Nat → Bool} {n : Nat} (h : p n = false) : kcnt p (n + 1) = kcnt p n := by
  show kcnt p n + (if p n then 1 else 0) = _
  rw [h]
  rfl
