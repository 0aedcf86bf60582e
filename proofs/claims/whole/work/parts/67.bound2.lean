/-! ===== how many alarms: each check raises and closes in turn, and only when something moved ===== -/
def kSum (a : Nat → Nat) : Nat → Nat
  | 0 => 0
  | n + 1 => kSum a n + a n
theorem kSum_congr {a b : Nat → Nat} {n : Nat} (h : ∀ i, i < n → a i = b i) : kSum a n = kSum b n := by
  induction n with
  | zero => rfl
  | succ n ih => show kSum a n + a n = kSum b n + b n; rw [ih (fun i hi => h i (by omega)), h n (by omega)]
theorem kSum_bump {a : Nat → Nat} {n k : Nat} (hk : k < n) : kSum (fun i => if i = k then a i + 1 else a i) n = kSum a n + 1 := by
  induction n with
  | zero => omega
  | succ n ih =>
    show kSum _ n + (if n = k then a n + 1 else a n) = kSum a n + a n + 1
    by_cases h : n = k
    · rw [if_pos h, kSum_congr (b := a) (fun i hi => if_neg (by omega))]; omega
    · rw [if_neg h, ih (by omega)]; omega
theorem kSum_le {a : Nat → Nat} {n M : Nat} (h : ∀ i, i < n → 2 * a i ≤ M) : 2 * kSum a n ≤ n * M := by
  induction n with
  | zero => exact Nat.zero_le _
  | succ n ih =>
    have h1 := ih (fun i hi => h i (by omega))
    have h2 := h n (by omega)
    show 2 * (kSum a n + a n) ≤ (n + 1) * M
    rw [Nat.add_mul n 1 M, Nat.one_mul]
    omega
def kPrA (M x : Nat) (σ : kS) (c : Nat) : Prop := (σ 25 c = 0 → σ 24 c = 2 → 2 * x + 1 ≤ M) ∧ (σ 25 c = 0 → 2 * x ≤ M) ∧ (σ 25 c ≠ 0 → σ 24 c = 1 → 2 * x ≤ M) ∧ (σ 25 c ≠ 0 → 2 * x ≤ M + 1)
def kPoA (M x : Nat) (σ : kS) (c : Nat) : Prop := kPrA M x σ c ∧ ¬ (σ 24 c = 1 ∧ σ 25 c ≠ 0)
def kInv (M : Nat) (σ : kS) : Prop := ∃ a : Nat → Nat, σ 4 0 = kSum a (σ 2 0) ∧ ∀ c, c < σ 2 0 → kPoA M (a c) σ c
theorem kInv_le {M : Nat} {σ : kS} (h : kInv M σ) : 2 * σ 4 0 ≤ σ 2 0 * (M + 1) := by
  obtain ⟨a, h1, h2⟩ := h
  rw [h1]
  refine kSum_le (fun c hc => ?_)
  obtain ⟨⟨-, p2, -, p4⟩, -⟩ := h2 c hc
  by_cases h0 : σ 25 c = 0
  · have := p2 h0; omega
  · exact p4 h0
theorem kPrA_up {M x : Nat} {σ τ : kS} {c : Nat} (h : kPoA M x σ c) (h25 : τ 25 c = σ 25 c) : kPrA (M + 1) x τ c := by
  obtain ⟨⟨p1, p2, p3, p4⟩, -⟩ := h
  unfold kPrA
  rw [h25]
  refine ⟨fun a _ => ?_, fun a => ?_, fun a _ => p4 a, fun a => ?_⟩
  · have := p2 a; omega
  · have := p2 a; omega
  · have := p4 a; omega
theorem kPoA_same {M x : Nat} {σ τ : kS} {c : Nat} (h : kPoA M x σ c) (h24 : τ 24 c = σ 24 c) (h25 : τ 25 c = σ 25 c) : kPoA M x τ c := by
  unfold kPoA kPrA at h ⊢
  rw [h24, h25]
  exact h
theorem kPrA_same {M x : Nat} {σ τ : kS} {c : Nat} (h : kPrA M x σ c) (h24 : τ 24 c = σ 24 c) (h25 : τ 25 c = σ 25 c) : kPrA M x τ c := by
  unfold kPrA at h ⊢
  rw [h24, h25]
  exact h
/-- the alarms of one minute -/
theorem kAls_inv {M : Nat} {σ : kS} {a0 : Nat → Nat} (h4 : σ 4 0 = kSum a0 (σ 2 0)) (hp : ∀ c, c < σ 2 0 → kPrA M (a0 c) σ c) : kInv M (kAls σ) := by
  suffices K : ∀ k, k ≤ σ 2 0 → ∃ a : Nat → Nat, kFor (fun c τ => kAl τ c) k σ 4 0 = kSum a (σ 2 0) ∧ ∀ c, c < σ 2 0 → (c < k → kPoA M (a c) (kFor (fun c τ => kAl τ c) k σ) c) ∧ (k ≤ c → kPrA M (a c) (kFor (fun c τ => kAl τ c) k σ) c) by
    obtain ⟨a, g1, g2⟩ := K (σ 2 0) (Nat.le_refl _)
    have e2 : kAls σ 2 0 = σ 2 0 := congrFun (kAls_row σ (σ 2 0) 2 (by decide)) 0
    refine ⟨a, ?_, fun c hc => ?_⟩
    · rw [e2]; exact g1
    · rw [e2] at hc; exact (g2 c hc).1 hc
  intro k
  induction k with
  | zero => exact fun _ => ⟨a0, h4, fun c hc => ⟨fun h => absurd h (Nat.not_lt_zero _), fun _ => hp c hc⟩⟩
  | succ k ih =>
    intro hk
    obtain ⟨a, g1, g2⟩ := ih (by omega)
    have gk := (g2 k (by omega)).2 (Nat.le_refl _)
    show ∃ a : Nat → Nat, kAl (kFor (fun c τ => kAl τ c) k σ) k 4 0 = _ ∧ ∀ c, c < σ 2 0 → (c < k + 1 → kPoA M (a c) (kAl (kFor (fun c τ => kAl τ c) k σ) k) c) ∧ (k + 1 ≤ c → kPrA M (a c) (kAl (kFor (fun c τ => kAl τ c) k σ) k) c)
    generalize kFor (fun c τ => kAl τ c) k σ = ρ at g1 g2 gk
    have e24 : ∀ c, kAl ρ k 24 c = ρ 24 c := fun c => kAl_fr ρ k 24 c (by decide)
    obtain ⟨p1, p2, p3, p4⟩ := gk
    unfold kAl at e24 ⊢
    split
    · rename_i hr
      rw [if_pos hr] at e24
      have e4 : kRaise ρ k 4 0 = ρ 4 0 + 1 := by simp [kRaise, ku]
      have e25 : ∀ c, kRaise ρ k 25 c = if c = k then ρ 4 0 + 1 else ρ 25 c := by intro c; simp [kRaise, ku]
      refine ⟨fun i => if i = k then a i + 1 else a i, ?_, fun c hc => ?_⟩
      · rw [e4, g1, kSum_bump (by omega)]
      · by_cases hck : c = k
        · subst hck
          refine ⟨fun _ => ?_, fun h => absurd h (by omega)⟩
          unfold kPoA kPrA
          have fa : (fun i => if i = c then a i + 1 else a i) c = a c + 1 := if_pos rfl
          rw [e24, e25, if_pos rfl, fa, hr.1]
          have := p1 hr.2.1 hr.1
          omega
        · have f25 : kRaise ρ k 25 c = ρ 25 c := by rw [e25, if_neg hck]
          have fa : (fun i => if i = k then a i + 1 else a i) c = a c := if_neg hck
          rw [fa]
          exact ⟨fun h => kPoA_same ((g2 c hc).1 (by omega)) (e24 c) f25, fun h => kPrA_same ((g2 c hc).2 (by omega)) (e24 c) f25⟩
    · rename_i hnr
      rw [if_neg hnr] at e24
      split
      · rename_i hcl
        rw [if_pos hcl] at e24
        have e4 : kClose ρ k 4 0 = ρ 4 0 := by simp [kClose, ku]
        have e25 : ∀ c, kClose ρ k 25 c = if c = k then 0 else ρ 25 c := by intro c; simp [kClose, ku]
        refine ⟨a, by rw [e4, g1], fun c hc => ?_⟩
        by_cases hck : c = k
        · subst hck
          refine ⟨fun _ => ?_, fun h => absurd h (by omega)⟩
          unfold kPoA kPrA
          rw [e24, e25, if_pos rfl, hcl.1]
          have := p3 hcl.2 hcl.1
          omega
        · have f25 : kClose ρ k 25 c = ρ 25 c := by rw [e25, if_neg hck]
          exact ⟨fun h => kPoA_same ((g2 c hc).1 (by omega)) (e24 c) f25, fun h => kPrA_same ((g2 c hc).2 (by omega)) (e24 c) f25⟩
      · rename_i hncl
        refine ⟨a, g1, fun c hc => ?_⟩
        by_cases hck : c = k
        · subst hck
          exact ⟨fun _ => ⟨⟨p1, p2, p3, p4⟩, hncl⟩, fun h => absurd h (by omega)⟩
        · exact ⟨fun h => (g2 c hc).1 (by omega), fun h => (g2 c hc).2 (by omega)⟩
theorem kCts_row (σ : kS) : ∀ n g, g ≠ 26 → g ≠ 27 → kFor (fun c ρ => kCt2 (kCt1 ρ c) c) n σ g = σ g := by
  intro n
  induction n with
  | zero => exact fun _ _ _ => rfl
  | succ n ih => exact fun g h1 h2 => ((kFr_row (kCt2_fr _ n) (by simpa using h1)).trans (kFr_row (kCt1_fr _ n) (by simpa using h2))).trans (ih g h1 h2)
theorem kInv_cts {M : Nat} {σ : kS} (h : kInv M σ) : kInv M (kCts σ) := by
  have r : ∀ g, g ≠ 26 → g ≠ 27 → kCts σ g = σ g := fun g h1 h2 => kCts_row σ _ g h1 h2
  obtain ⟨a, h1, h2⟩ := h
  refine ⟨a, ?_, fun c hc => ?_⟩
  · rw [r 4 (by decide) (by decide), r 2 (by decide) (by decide)]; exact h1
  · rw [r 2 (by decide) (by decide)] at hc
    exact kPoA_same (h2 c hc) (congrFun (r 24 (by decide) (by decide)) c) (congrFun (r 25 (by decide) (by decide)) c)
/-- a minute in which anything may have moved -/
theorem kInv_min1 {M : Nat} {σ : kS} (h : kInv M σ) (hB : kB σ) (hm : σ 0 0 < 102400) : kInv (M + 1) (kPass1 σ) := by
  obtain ⟨p1, p2, p3, p4⟩ := kPass1_pre hB hm
  obtain ⟨a, h1, h2⟩ := h
  have r : ∀ g, g ∉ kLp → g ≠ 15 → g ≠ 24 → g ≠ 0 → kJC (kJR (kPrbs (kMin σ))) g = σ g := fun g a b c d => by
    funext j
    rw [p4.2 g j (by simpa using c), p3.2 g j (by simpa using b), p2.2 g j a, p1.2 g j (by simpa using d)]
  have e2 := congrFun (r 2 (by decide) (by decide) (by decide) (by decide)) 0
  have e4 := congrFun (r 4 (by decide) (by decide) (by decide) (by decide)) 0
  have e25 := r 25 (by decide) (by decide) (by decide) (by decide)
  refine kInv_cts (kAls_inv (a0 := a) (by rw [e4, e2]; exact h1) (fun c hc => ?_))
  rw [e2] at hc
  exact kPrA_up (h2 c hc) (congrFun e25 c)
/-- a minute in which no verdict moved -/
theorem kInv_min0 {M : Nat} {σ : kS} (h : kInv M σ) (hB : kB σ) (hm : σ 0 0 < 102400) (hv : ∀ c, c < σ 2 0 → kJC (kJR (kPrbs (kMin σ))) 24 c = σ 24 c) : kInv M (kPass1 σ) := by
  obtain ⟨p1, p2, p3, p4⟩ := kPass1_pre hB hm
  obtain ⟨a, h1, h2⟩ := h
  have r : ∀ g, g ∉ kLp → g ≠ 15 → g ≠ 24 → g ≠ 0 → kJC (kJR (kPrbs (kMin σ))) g = σ g := fun g a b c d => by
    funext j
    rw [p4.2 g j (by simpa using c), p3.2 g j (by simpa using b), p2.2 g j a, p1.2 g j (by simpa using d)]
  have e2 := congrFun (r 2 (by decide) (by decide) (by decide) (by decide)) 0
  have e4 := congrFun (r 4 (by decide) (by decide) (by decide) (by decide)) 0
  have e25 := r 25 (by decide) (by decide) (by decide) (by decide)
  refine kInv_cts (kAls_inv (a0 := a) (by rw [e4, e2]; exact h1) (fun c hc => ?_))
  rw [e2] at hc
  exact kPrA_same (h2 c hc).1 (hv c hc) (congrFun e25 c)
