/-! ===== what one minute keeps ===== -/
theorem kPass1_pre {σ : kS} (h : kB σ) (hm : σ 0 0 < 102400) : kPin [0] σ (kMin σ) ∧ kPin kLp (kMin σ) (kPrbs (kMin σ)) ∧ kPin [15] (kPrbs (kMin σ)) (kJR (kPrbs (kMin σ))) ∧ kPin [24] (kJR (kPrbs (kMin σ))) (kJC (kJR (kPrbs (kMin σ)))) := by
  have h1 : kPin [0] σ (kMin σ) := ⟨kB_p0 (j := 0) h (by omega), fun g j hg => ku_f _ _ _ _ (by simpa using hg)⟩
  have h2 := kPrbs_in h1.1
  have h3 := kJRs_in h2.1
  exact ⟨h1, h2, h3, kJCs_in h3.1⟩
theorem kPass1_up (σ : kS) : kJC (kJR (kPrbs (kMin σ))) 4 0 ≤ kPass1 σ 4 0 := by
  have h1 : kPass1 σ 4 0 = kAls (kJC (kJR (kPrbs (kMin σ)))) 4 0 := by
    have key : ∀ (τ : kS) (n : Nat), kFor (fun c τ => kCt2 (kCt1 τ c) c) n τ 4 0 = τ 4 0 := by
      intro τ n
      induction n with
      | zero => rfl
      | succ n ih =>
        show kCt2 (kCt1 (kFor _ n τ) n) n 4 0 = _
        rw [← ih]
        unfold kCt2 kCt1
        split <;> split <;> first | rfl | simp [ku]
    exact key _ _
  rw [h1]
  exact kAls_mono (k := 0) (Nat.zero_le _)
theorem kPass1_in {σ : kS} (h : kB σ) (hm : σ 0 0 < 102400) (hn : kPass1 σ 4 0 ≤ 51000) : kB (kPass1 σ) ∧ kPass1 σ 0 0 = σ 0 0 + 1 ∧ kPass1 σ 1 0 = σ 1 0 ∧ kPass1 σ 2 0 = σ 2 0 ∧ kPass1 σ 3 0 = σ 3 0 ∧ σ 4 0 ≤ kPass1 σ 4 0 ∧ kAls (kJC (kJR (kPrbs (kMin σ)))) 4 0 = kPass1 σ 4 0 ∧ kJC (kJR (kPrbs (kMin σ))) 4 0 = σ 4 0 := by
  obtain ⟨h1, h2, h3, h4⟩ := kPass1_pre h hm
  have hu := kPass1_up σ
  have e9 : kAls (kJC (kJR (kPrbs (kMin σ)))) 4 0 = kPass1 σ 4 0 := by
    have key : ∀ (τ : kS) (n : Nat), kFor (fun c τ => kCt2 (kCt1 τ c) c) n τ 4 0 = τ 4 0 := by
      intro τ n
      induction n with
      | zero => rfl
      | succ n ih =>
        show kCt2 (kCt1 (kFor _ n τ) n) n 4 0 = _
        rw [← ih]
        unfold kCt2 kCt1
        split <;> split <;> first | rfl | simp [ku]
    exact (key _ _).symm
  have h5 := kAls_in h4.1 (by omega)
  have h6 := kCts_in h5.1
  have chain : ∀ g, g ∉ kLp → g ≠ 15 → g ≠ 24 → g ≠ 0 → ∀ j, kJC (kJR (kPrbs (kMin σ))) g j = σ g j := fun g a b c d j => by
    rw [h4.2 g j (by simpa using c), h3.2 g j (by simpa using b), h2.2 g j a, h1.2 g j (by simpa using d)]
  have chain2 : ∀ g, g ∉ kLp → g ≠ 15 → g ≠ 24 → g ≠ 0 → g ∉ kLa → g ∉ [26, 27] → ∀ j, kPass1 σ g j = σ g j := fun g a b c d e f j => by
    show kCts _ g j = _
    rw [h6.2 g j f, h5.2 g j e, chain g a b c d j]
  have e4 := chain 4 (by decide) (by decide) (by decide) (by decide) 0
  refine ⟨h6.1, ?_, chain2 1 (by decide) (by decide) (by decide) (by decide) (by decide) (by decide) 0, chain2 2 (by decide) (by decide) (by decide) (by decide) (by decide) (by decide) 0, chain2 3 (by decide) (by decide) (by decide) (by decide) (by decide) (by decide) 0, by omega, e9, e4⟩
  show kCts _ 0 0 = _
  rw [h6.2 0 0 (by decide), h5.2 0 0 (by decide), h4.2 0 0 (by decide), h3.2 0 0 (by decide), h2.2 0 0 (by decide)]
  exact ku_s _ _ _ _
theorem kPass_in {σ : kS} (h : kB σ) : ∀ t, σ 0 0 + t ≤ 102400 → kPass t σ 4 0 ≤ 51000 → kB (kPass t σ) ∧ kPass t σ 0 0 = σ 0 0 + t ∧ kPass t σ 1 0 = σ 1 0 ∧ kPass t σ 2 0 = σ 2 0 ∧ kPass t σ 3 0 = σ 3 0 ∧ σ 4 0 ≤ kPass t σ 4 0 := by
  intro t
  induction t with
  | zero => exact fun _ _ => ⟨h, rfl, rfl, rfl, rfl, Nat.le_refl _⟩
  | succ t ih =>
    intro hm hn
    have hu0 : kPass t σ 4 0 ≤ kPass1 (kPass t σ) 4 0 := by
      refine Nat.le_trans (Nat.le_of_eq ?_) (kPass1_up _)
      have key : ∀ (f : Nat → kS → kS) (hf : ∀ i τ, f i τ 4 0 = τ 4 0) (n : Nat) (τ : kS), kFor f n τ 4 0 = τ 4 0 := by
        intro f hf n τ
        induction n with
        | zero => rfl
        | succ n ih => exact (hf n _).trans ih
      have k1 : ∀ τ, kJC τ 4 0 = τ 4 0 := fun τ => key _ (fun i τ => ku_f _ _ _ _ (by decide)) _ _
      have k2 : ∀ τ, kJR τ 4 0 = τ 4 0 := fun τ => key _ (fun i τ => ku_f _ _ _ _ (by decide)) _ _
      have k3 : ∀ τ, kPrbs τ 4 0 = τ 4 0 := fun τ => key _ (fun i τ => key _ (fun r ρ => kPrb_fr ρ i r 4 0 (by decide)) _ _) _ _
      rw [k1, k2, k3]
      exact (ku_f _ _ _ _ (by decide)).symm
    have hn1 : kPass1 (kPass t σ) 4 0 ≤ 51000 := hn
    obtain ⟨a1, a2, a3, a4, a5, a6⟩ := ih (by omega) (by omega)
    obtain ⟨b1, b2, b3, b4, b5, b6, b7, b8⟩ := kPass1_in a1 (by omega) hn1
    refine ⟨b1, ?_, ?_, ?_, ?_, ?_⟩
    · show kPass1 _ 0 0 = _; omega
    · show kPass1 _ 1 0 = _; omega
    · show kPass1 _ 2 0 = _; omega
    · show kPass1 _ 3 0 = _; omega
    · show _ ≤ kPass1 _ 4 0; omega
theorem kPass_mono {σ : kS} {j t : Nat} (h : j ≤ t) : kPass j σ 4 0 ≤ kPass t σ 4 0 := by
  induction t with
  | zero => rw [Nat.le_zero.mp h]; exact Nat.le_refl _
  | succ t ih =>
    rcases Nat.lt_or_ge j (t + 1) with h1 | h1
    · refine Nat.le_trans (ih (by omega)) ?_
      refine Nat.le_trans (Nat.le_of_eq ?_) (kPass1_up _)
      have key : ∀ (f : Nat → kS → kS) (hf : ∀ i τ, f i τ 4 0 = τ 4 0) (n : Nat) (τ : kS), kFor f n τ 4 0 = τ 4 0 := by
        intro f hf n τ
        induction n with
        | zero => rfl
        | succ n ih => exact (hf n _).trans ih
      have k1 : ∀ τ, kJC τ 4 0 = τ 4 0 := fun τ => key _ (fun i τ => ku_f _ _ _ _ (by decide)) _ _
      have k2 : ∀ τ, kJR τ 4 0 = τ 4 0 := fun τ => key _ (fun i τ => ku_f _ _ _ _ (by decide)) _ _
      have k3 : ∀ τ, kPrbs τ 4 0 = τ 4 0 := fun τ => key _ (fun i τ => key _ (fun r ρ => kPrb_fr ρ i r 4 0 (by decide)) _ _) _ _
      rw [k1, k2, k3]
      exact (ku_f _ _ _ _ (by decide)).symm
    · rw [show j = t + 1 by omega]; exact Nat.le_refl _
theorem ksub {a b : Nat} (h : a ≤ b) : nI b - nI a = nI (b - a) := by
  obtain ⟨d, rfl⟩ : ∃ d, b = a + d := ⟨b - a, by omega⟩
  rw [← nI_add, Int32.add_comm, Int32.add_sub_cancel, show a + d - a = d by omega]
