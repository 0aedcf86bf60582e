/-! ===== the counts of a check are no more than the minutes ===== -/
def kCb (σ : kS) : Prop := ∀ c, σ 26 c ≤ σ 0 0 ∧ σ 27 c ≤ σ 0 0
theorem kCts_cnt (σ : kS) : ∀ n c, kFor (fun c ρ => kCt2 (kCt1 ρ c) c) n σ 26 c ≤ σ 26 c + (if c < n then 1 else 0) ∧ kFor (fun c ρ => kCt2 (kCt1 ρ c) c) n σ 27 c ≤ σ 27 c + (if c < n then 1 else 0) := by
  intro n
  induction n with
  | zero => exact fun c => ⟨Nat.le_add_right _ _, Nat.le_add_right _ _⟩
  | succ n ih =>
    intro c
    obtain ⟨i1, i2⟩ := ih c
    show kCt2 (kCt1 (kFor _ n σ) n) n 26 c ≤ _ ∧ kCt2 (kCt1 (kFor _ n σ) n) n 27 c ≤ _
    generalize kFor (fun c ρ => kCt2 (kCt1 ρ c) c) n σ = ρ at i1 i2
    have e26 : kCt1 ρ n 26 = ρ 26 := kFr_row (kCt1_fr ρ n) (by decide)
    have e27 : kCt2 (kCt1 ρ n) n 27 = kCt1 ρ n 27 := kFr_row (kCt2_fr _ n) (by decide)
    have a : kCt2 (kCt1 ρ n) n 26 c ≤ ρ 26 c + (if c = n then 1 else 0) := by
      unfold kCt2
      rw [e26]
      split
      · rw [ku_e, e26]
        by_cases h : c = n
        · rw [if_pos h, if_pos h, h]; exact Nat.le_refl _
        · rw [if_neg h, if_neg h]; exact Nat.le_refl _
      · rw [e26]; exact Nat.le_add_right _ _
    have b : kCt2 (kCt1 ρ n) n 27 c ≤ ρ 27 c + (if c = n then 1 else 0) := by
      rw [e27]
      unfold kCt1
      split
      · rw [ku_e]
        by_cases h : c = n
        · rw [if_pos h, if_pos h, h]; exact Nat.le_refl _
        · rw [if_neg h, if_neg h]; exact Nat.le_refl _
      · exact Nat.le_add_right _ _
    by_cases h : c = n
    · subst h
      rw [if_neg (Nat.lt_irrefl _)] at i1 i2
      rw [if_pos rfl] at a b
      rw [if_pos (Nat.lt_succ_self _)]
      omega
    · rw [if_neg h] at a b
      by_cases h2 : c < n
      · rw [if_pos h2] at i1 i2
        rw [if_pos (by omega)]
        omega
      · rw [if_neg h2] at i1 i2
        rw [if_neg (by omega)]
        omega
theorem kCb_pass1 {σ : kS} (h : kCb σ) (hB : kB σ) (hm : σ 0 0 < 102400) (hn : kPass1 σ 4 0 ≤ 51000) : kCb (kPass1 σ) := by
  have e0 := (kPass1_in hB hm hn).2.1
  obtain ⟨p1, p2, p3, p4⟩ := kPass1_pre hB hm
  intro c
  have r : ∀ g, g ∉ kLp → g ≠ 15 → g ≠ 24 → g ≠ 0 → g ∉ kLa → kAls (kJC (kJR (kPrbs (kMin σ)))) g = σ g := fun g a b c d e => by
    unfold kAls
    rw [kAls_row _ _ g e]
    funext j
    rw [p4.2 g j (by simpa using c), p3.2 g j (by simpa using b), p2.2 g j a, p1.2 g j (by simpa using d)]
  have k1 := kCts_cnt (kAls (kJC (kJR (kPrbs (kMin σ))))) (kAls (kJC (kJR (kPrbs (kMin σ)))) 2 0) c
  rw [r 26 (by decide) (by decide) (by decide) (by decide) (by decide), r 27 (by decide) (by decide) (by decide) (by decide) (by decide)] at k1
  have h1 := h c
  rw [e0]
  have k26 : kPass1 σ 26 c ≤ σ 26 c + 1 := Nat.le_trans k1.1 (by split <;> omega)
  have k27 : kPass1 σ 27 c ≤ σ 27 c + 1 := Nat.le_trans k1.2 (by split <;> omega)
  omega
theorem kCb_pass {σ : kS} (h : kCb σ) (hB : kB σ) : ∀ t, σ 0 0 + t ≤ 102400 → kPass t σ 4 0 ≤ 51000 → kCb (kPass t σ) := by
  intro t
  induction t with
  | zero => exact fun _ _ => h
  | succ t ih =>
    intro hm hn
    have hmo : kPass t σ 4 0 ≤ 51000 := Nat.le_trans (kPass_mono (Nat.le_succ t)) hn
    have hin := kPass_in hB t (by omega) hmo
    exact kCb_pass1 (ih (by omega) hmo) hin.1 (by omega) hn
