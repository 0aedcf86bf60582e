/-! ===== the minute's loops, side by side ===== -/
theorem kFor_congr {f g : Nat → kS → kS} {n : Nat} (h : ∀ i, i < n → f i = g i) (σ : kS) : kFor f n σ = kFor g n σ := by
  induction n with
  | zero => rfl
  | succ n ih =>
    show f n (kFor f n σ) = g n (kFor g n σ)
    rw [ih (fun i hi => h i (by omega)), h n (by omega)]
section REL2
variable {σ τ : kS}
/-- the class's state when the reference has come to its pair k -/
def kS1 (σ : kS) (k : Nat) : kS := kFor (fun r ρ => kPrb ρ (k / 6) r) (min (k % 6) (σ 1 0)) (kFor (fun c ρ => kFor (fun r χ => kPrb χ c r) (σ 1 0) ρ) (k / 6) σ)
theorem kFor_s (f : Nat → kS → kS) (n : Nat) (ρ : kS) : kFor f (n + 1) ρ = f n (kFor f n ρ) := rfl
theorem kFor_z (f : Nat → kS → kS) (ρ : kS) : kFor f 0 ρ = ρ := rfl
theorem kS1_next (σ : kS) (h6 : σ 1 0 ≤ 6) (k : Nat) : kS1 σ (k + 1) = if k % 6 < σ 1 0 then kPrb (kS1 σ k) (k / 6) (k % 6) else kS1 σ k := by
  unfold kS1
  by_cases h5 : k % 6 = 5
  · rw [show (k + 1) / 6 = k / 6 + 1 by omega, show (k + 1) % 6 = 0 by omega, kFor_s, Nat.zero_min, kFor_z, h5]
    generalize kFor (fun c ρ => kFor (fun r χ => kPrb χ c r) (σ 1 0) ρ) (k / 6) σ = X
    generalize σ 1 0 = R at h6
    have hf : ∀ r ρ, kPrb ρ (k / 6) r = (fun r ρ => kPrb ρ (k / 6) r) r ρ := fun _ _ => rfl
    rw [hf 5]
    generalize (fun r ρ => kPrb ρ (k / 6) r) = f
    by_cases h7 : 5 < R
    · have h8 : R = 5 + 1 := by omega
      rw [if_pos h7, Nat.min_eq_left (by omega), h8, kFor_s]
    · rw [if_neg h7, Nat.min_eq_right (by omega)]
  · rw [show (k + 1) / 6 = k / 6 by omega, show (k + 1) % 6 = k % 6 + 1 by omega]
    generalize kFor (fun c ρ => kFor (fun r χ => kPrb χ c r) (σ 1 0) ρ) (k / 6) σ = X
    generalize σ 1 0 = R at h6
    have hf : ∀ r ρ, kPrb ρ (k / 6) r = (fun r ρ => kPrb ρ (k / 6) r) r ρ := fun _ _ => rfl
    rw [hf (k % 6)]
    generalize (fun r ρ => kPrb ρ (k / 6) r) = f
    by_cases h7 : k % 6 < R
    · rw [if_pos h7, Nat.min_eq_left (by omega), Nat.min_eq_left (by omega), kFor_s]
    · rw [if_neg h7, Nat.min_eq_right (by omega), Nat.min_eq_right (by omega)]
theorem kS1_in (hB : kB σ) : ∀ k, k ≤ 6 * σ 2 0 → kPin kLp σ (kS1 σ k) := by
  intro k
  induction k with
  | zero =>
    intro _
    have e : kS1 σ 0 = σ := by
      unfold kS1
      show kFor _ (min 0 (σ 1 0)) σ = σ
      rw [Nat.zero_min]
      rfl
    rw [e]
    exact kPin.rf hB
  | succ k ih =>
    intro hk
    rw [kS1_next σ hB.nR]
    split
    · exact kPrb_in (ih (by omega)) (by omega) (by assumption)
    · exact ih (by omega)
theorem kR_S1 (h : kR σ τ) (hB : kB σ) : ∀ k, k ≤ 6 * σ 2 0 → kR (kS1 σ k) (kFor mP1 k τ) := by
  intro k
  induction k with
  | zero =>
    intro _
    have e : kS1 σ 0 = σ := by
      unfold kS1
      show kFor _ (min 0 (σ 1 0)) σ = σ
      rw [Nat.zero_min]
      rfl
    rw [e]
    exact h
  | succ k ih =>
    intro hk
    have hr := ih (by omega)
    have hin := kS1_in hB k (by omega)
    have e1 : kS1 σ k 1 0 = σ 1 0 := hin.2 1 0 (by decide)
    have e2 : kS1 σ k 2 0 = σ 2 0 := hin.2 2 0 (by decide)
    have e31 : kFor mP1 k τ 31 0 = σ 1 0 := hr.1.2.1.trans e1
    rw [kS1_next σ hB.nR]
    show kR _ (mP1 k (kFor mP1 k τ))
    unfold mP1
    rw [show (fun k τ => if k % 6 < τ 31 0 then mPrb τ (k / 6) (k % 6) else τ) = mP1 from rfl, e31]
    split
    · exact kR_prb hr hin.1 (by omega) (by omega)
    · exact hr
theorem kR_prbs (h : kR σ τ) (hB : kB σ) : kR (kPrbs σ) (kFor mP1 (6 * τ 32 0) τ) := by
  have h1 := kR_S1 h hB (6 * σ 2 0) (Nat.le_refl _)
  rw [h.1.2.2.1]
  have e : kS1 σ (6 * σ 2 0) = kPrbs σ := by
    unfold kS1 kPrbs
    rw [show 6 * σ 2 0 / 6 = σ 2 0 by omega, show 6 * σ 2 0 % 6 = 0 by omega, Nat.zero_min]
    rfl
  rw [← e]
  exact h1
theorem kcnt_split {v : Nat → Nat} (n : Nat) (h : ∀ i, i < n → v i ≤ 2) : kcnt (fun i => v i == 2) n + kcnt (fun i => v i == 1) n = kcnt (fun i => v i != 0) n := by
  induction n with
  | zero => rfl
  | succ n ih =>
    have h1 := ih (fun i hi => h i (by omega))
    have h2 := h n (by omega)
    simp only [kcnt]
    have h3 : v n = 0 ∨ v n = 1 ∨ v n = 2 := by omega
    rcases h3 with e | e | e <;> simp [e] <;> omega
theorem kR_bad (h : kR σ τ) (hB : kB σ) {r : Nat} (hr : r < 6) : mBd τ r = if kBadv σ r then 1 else 0 := by
  have hs := kcnt_split (v := fun c => σ 31 (6 * c + r)) (σ 2 0) (fun c hc => (hB.pr c r hc hr).1)
  unfold mBd kBadv
  rw [h.2.1.2.2.2.2.2.2.2.2.2.1, h.1.2.2.1, hs]
  by_cases h1 : 2 ≤ kcnt (fun c => σ 31 (6 * c + r) != 0) (σ 2 0)
  · by_cases h2 : kcnt (fun c => σ 31 (6 * c + r) != 0) (σ 2 0) < 2 * kcnt (fun c => σ 31 (6 * c + r) == 2) (σ 2 0)
    · rw [if_pos ⟨by omega, h2⟩, decide_eq_true h1, decide_eq_true h2]; rfl
    · rw [if_neg (fun q => h2 q.2), decide_eq_false h2, Bool.and_false]; rfl
  · rw [if_neg (fun q => h1 (by omega)), decide_eq_false h1]; rfl
theorem kR_jr (h : kR σ τ) (hB : kB σ) : kR (kJR σ) (mPb τ) := by
  suffices K : ∀ k, k ≤ σ 1 0 → kR (kFor (fun r τ => ku τ 15 0 (kwr (τ 15 0) r (kBadv τ r))) k σ) (kFor (fun r ρ => ku ρ 3 r (mBd ρ r)) k τ) by
    have h1 := K (σ 1 0) (Nat.le_refl _)
    unfold kJR mPb
    rw [h.1.2.1]
    exact h1
  intro k
  induction k with
  | zero => exact fun _ => h
  | succ k ih =>
    intro hk
    have hr := ih (by omega)
    have hin : kPin [15] σ (kFor (fun r τ => ku τ 15 0 (kwr (τ 15 0) r (kBadv τ r))) k σ) := kFor_inv (P := kPin [15] σ) (n := σ 1 0) (kPin.rf hB) (fun r τ hr hτ => kJR_in hτ hr _) k (by omega)
    show kR (ku (kFor _ k σ) 15 0 _) (ku (kFor _ k τ) 3 k _)
    generalize kFor (fun r τ => ku τ 15 0 (kwr (τ 15 0) r (kBadv τ r))) k σ = α at hr hin
    generalize kFor (fun r ρ => ku ρ 3 r (mBd ρ r)) k τ = β at hr
    have h6 : k < 6 := by have := hB.nR; omega
    have hb := kR_bad hr hin.1 h6
    obtain ⟨a, b, d, p, o⟩ := hr
    refine ⟨a, b, ⟨d.1, fun r hr6 => ?_, d.2.2⟩, p, o⟩
    show ku β 3 k (mBd β k) 3 r = b2 (ku α 15 0 (kwr (α 15 0) k (kBadv α k)) 15 0) r
    rw [ku_s, ku_e, hb]
    unfold b2
    rw [kwr_bit k h6 _ hin.1.bad _ r hr6]
    by_cases e : r = k
    · rw [if_pos e, if_pos e]
    · rw [if_neg e, if_neg e]
      exact d.2.1 r hr6
end REL2
/-- three steps for one place at a time, or one step for all places at a time -/
theorem kFor_fuse {f g h : Nat → kS → kS} (hfg : ∀ i j, i < j → ∀ ρ, f j (g i ρ) = g i (f j ρ)) (hfh : ∀ i j, i < j → ∀ ρ, f j (h i ρ) = h i (f j ρ)) (hgh : ∀ i j, i < j → ∀ ρ, g j (h i ρ) = h i (g j ρ)) (n : Nat) (σ : kS) :
    kFor (fun c ρ => h c (g c (f c ρ))) n σ = kFor h n (kFor g n (kFor f n σ)) := by
  have pull : ∀ (a : Nat → kS → kS) (b : kS → kS) (n : Nat), (∀ i, i < n → ∀ ρ, b (a i ρ) = a i (b ρ)) → ∀ ρ, b (kFor a n ρ) = kFor a n (b ρ) := by
    intro a b n
    induction n with
    | zero => exact fun _ _ => rfl
    | succ n ih =>
      intro hab ρ
      show b (a n (kFor a n ρ)) = a n (kFor a n (b ρ))
      rw [hab n (by omega), ih (fun i hi => hab i (by omega))]
  induction n with
  | zero => rfl
  | succ n ih =>
    show h n (g n (f n (kFor _ n σ))) = h n (kFor h n (g n (kFor g n (f n (kFor f n σ)))))
    rw [ih, pull h (f n) n (fun i hi ρ => hfh i n hi ρ), pull g (f n) n (fun i hi ρ => hfg i n hi ρ), pull h (g n) n (fun i hi ρ => hgh i n hi ρ)]
