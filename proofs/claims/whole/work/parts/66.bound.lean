/-! ===== how many alarms there can be: stale votes ===== -/
def kSt1 (σ : kS) (c r : Nat) : Bool := decide (c < σ 2 0) && decide (r < σ 1 0) && (σ 31 (6 * c + r) != if kfail σ c r then 2 else 1)
def kStl (σ : kS) : Nat := kcnt (fun j => kSt1 σ (j / 6) (j % 6)) 48
theorem kStl_le (σ : kS) : kStl σ ≤ 48 := kcnt_le _ _
theorem kcnt_mono {p q : Nat → Bool} {n : Nat} (h : ∀ i, i < n → p i = true → q i = true) : kcnt p n ≤ kcnt q n := by
  induction n with
  | zero => exact Nat.le_refl _
  | succ n ih =>
    have h1 := ih (fun i hi => h i (by omega))
    have h2 := h n (by omega)
    cases hp : p n with
    | false => rw [kcnt_f hp]; show _ ≤ kcnt q n + _; omega
    | true => rw [kcnt_t hp, kcnt_t (h2 hp)]; omega
theorem kcnt_lt {p q : Nat → Bool} {n : Nat} (h : ∀ i, i < n → p i = true → q i = true) {k : Nat} (hk : k < n) (h1 : p k = false) (h2 : q k = true) : kcnt p n < kcnt q n := by
  induction n with
  | zero => omega
  | succ n ih =>
    by_cases hkn : k = n
    · subst hkn
      rw [kcnt_f h1, kcnt_t h2]
      have h9 : kcnt p k ≤ kcnt q k := kcnt_mono (fun i hi => h i (by omega))
      omega
    · have h3 := ih (fun i hi => h i (by omega)) (by omega)
      have h4 := h n (by omega)
      cases hp : p n with
      | false => rw [kcnt_f hp]; show _ < kcnt q n + _; omega
      | true => rw [kcnt_t hp, kcnt_t (h4 hp)]; omega
/-- nothing but votes moved, and each that moved is as it should be -/
def kSg (σ τ : kS) : Prop := τ 1 = σ 1 ∧ τ 2 = σ 2 ∧ τ 11 = σ 11 ∧ τ 14 = σ 14 ∧ τ 30 = σ 30 ∧ ∀ c r, c < σ 2 0 → r < σ 1 0 → τ 31 (6 * c + r) = σ 31 (6 * c + r) ∨ τ 31 (6 * c + r) = if kfail σ c r then 2 else 1
theorem kfail_congr {σ τ : kS} (h30 : τ 30 = σ 30) (h11 : τ 11 = σ 11) (h14 : τ 14 = σ 14) (c r : Nat) : kfail τ c r = kfail σ c r := by
  unfold kfail
  rw [h30, h11, h14]
theorem kSg.trans {σ τ ρ : kS} (h1 : kSg σ τ) (h2 : kSg τ ρ) : kSg σ ρ := by
  obtain ⟨a1, a2, a11, a14, a30, a31⟩ := h1
  obtain ⟨b1, b2, b11, b14, b30, b31⟩ := h2
  refine ⟨b1.trans a1, b2.trans a2, b11.trans a11, b14.trans a14, b30.trans a30, fun c r hc hr => ?_⟩
  rcases b31 c r (by rw [a2]; exact hc) (by rw [a1]; exact hr) with h | h
  · rw [h]; exact a31 c r hc hr
  · rw [h, kfail_congr a30 a11 a14]; exact Or.inr rfl
theorem kSg.rf (σ : kS) : kSg σ σ := ⟨rfl, rfl, rfl, rfl, rfl, fun _ _ _ _ => Or.inl rfl⟩
theorem kSg.le {σ τ : kS} (h : kSg σ τ) (hB : kB σ) : kStl τ ≤ kStl σ ∧ (kStl τ < kStl σ ∨ ∀ c r, c < σ 2 0 → r < σ 1 0 → τ 31 (6 * c + r) = σ 31 (6 * c + r)) := by
  obtain ⟨a1, a2, a11, a14, a30, a31⟩ := h
  have mono : ∀ i, i < 48 → kSt1 τ (i / 6) (i % 6) = true → kSt1 σ (i / 6) (i % 6) = true := by
    intro i _
    unfold kSt1
    rw [a2, a1, kfail_congr a30 a11 a14]
    by_cases hc : i / 6 < σ 2 0
    · by_cases hr : i % 6 < σ 1 0
      · rcases a31 _ _ hc hr with h | h
        · rw [h]; exact id
        · rw [h]; simp
      · rw [decide_eq_false hr]; simp
    · rw [decide_eq_false hc]; simp
  refine ⟨kcnt_mono mono, ?_⟩
  by_cases hall : ∀ c r, c < σ 2 0 → r < σ 1 0 → τ 31 (6 * c + r) = σ 31 (6 * c + r)
  · exact Or.inr hall
  · left
    simp only [Classical.not_forall] at hall
    obtain ⟨c, r, hc, hr, hne⟩ := hall
    have hc8 := hB.c8 hc
    have hr6 := hB.r6 hr
    have hd : τ 31 (6 * c + r) = if kfail σ c r then 2 else 1 := (a31 c r hc hr).resolve_left hne
    refine kcnt_lt mono (k := 6 * c + r) (by omega) ?_ ?_
    · rw [show (6 * c + r) / 6 = c by omega, show (6 * c + r) % 6 = r by omega]
      unfold kSt1
      rw [kfail_congr a30 a11 a14, hd]
      simp
    · rw [show (6 * c + r) / 6 = c by omega, show (6 * c + r) % 6 = r by omega]
      unfold kSt1
      rw [decide_eq_true hc, decide_eq_true hr]
      rw [hd] at hne
      simpa using fun h => hne h.symm
theorem kSg_prb {σ : kS} (hB : kB σ) {c r : Nat} (hc : c < σ 2 0) (hr : r < σ 1 0) : kSg σ (kPrb σ c r) := by
  have hf := kPrb_fr σ c r
  have hr6 := hB.r6 hr
  refine ⟨kFr_row hf (by decide), kFr_row hf (by decide), kFr_row hf (by decide), kFr_row hf (by decide), kFr_row hf (by decide), fun c' r' hc' hr' => ?_⟩
  have hr6' := hB.r6 hr'
  unfold kPrb
  split
  · unfold kMake
    cases hk : kfail σ c r with
    | false =>
      rw [if_neg (by decide)]
      show kTakeS _ c r 31 (6 * c' + r') = _ ∨ _
      unfold kTakeS
      rw [ku_e]
      by_cases he : 6 * c' + r' = 6 * c + r
      · rw [if_pos he]
        obtain ⟨rfl, rfl⟩ : c' = c ∧ r' = r := by omega
        rw [hk]
        exact Or.inr rfl
      · rw [if_neg he]
        exact Or.inl rfl
    | true =>
      rw [if_pos rfl]
      unfold kTakeF
      split
      · exact Or.inl rfl
      · split
        · rw [ku_e]
          by_cases he : 6 * c' + r' = 6 * c + r
          · rw [if_pos he]
            obtain ⟨rfl, rfl⟩ : c' = c ∧ r' = r := by omega
            rw [hk]
            exact Or.inr rfl
          · rw [if_neg he]
            exact Or.inl rfl
        · exact Or.inl rfl
  · exact Or.inl rfl
theorem kSg_prbs {σ : kS} (hB : kB σ) : kSg σ (kPrbs σ) := by
  have h := kFor_inv (P := fun τ => kPin kLp σ τ ∧ kSg σ τ) (f := fun c τ => kFor (fun r ρ => kPrb ρ c r) (σ 1 0) τ) (n := σ 2 0) ⟨kPin.rf hB, kSg.rf σ⟩ (fun c τ hc hτ =>
    kFor_inv (P := fun τ => kPin kLp σ τ ∧ kSg σ τ) (f := fun r ρ => kPrb ρ c r) (n := σ 1 0) hτ (fun r ρ hr hρ =>
      ⟨kPrb_in hρ.1 hc hr, hρ.2.trans (kSg_prb hρ.1.1 (by rw [hρ.1.2 2 0 (by decide)]; exact hc) (by rw [hρ.1.2 1 0 (by decide)]; exact hr))⟩) _ (Nat.le_refl _)) _ (Nat.le_refl _)
  exact h.2
