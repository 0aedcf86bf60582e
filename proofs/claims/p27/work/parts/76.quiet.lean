/-! ===== where nothing is down and nothing is cut, minutes raise no alarm ===== -/
theorem kFor_ind {P : kS → Prop} {f : Nat → kS → kS} : ∀ n, (∀ k τ, k < n → P τ → P (f k τ)) → ∀ σ, P σ → P (kFor f n σ) := by
  intro n
  induction n with
  | zero => exact fun _ σ h => h
  | succ n ih => exact fun hf σ h => hf n _ (Nat.lt_succ_self n) (ih (fun k τ hk => hf k τ (Nat.lt_succ_of_lt hk)) σ h)
def kQt (σ : kS) : Prop := σ 14 0 = 0 ∧ (∀ c, σ 30 c = 0) ∧ (∀ j, σ 31 j ≠ 2) ∧ σ 4 0 = 0 ∧ ∀ c, σ 25 c = 0
theorem kQt_o {σ : kS} (h : kQt σ) {f : Nat} (i v : Nat) (hf : f ∉ [14, 30, 31, 4, 25]) : kQt (ku σ f i v) := by
  simp only [List.mem_cons, List.not_mem_nil, or_false, not_or] at hf
  obtain ⟨h1, h2, h3, h4, h5⟩ := h
  refine ⟨?_, fun c => ?_, fun j => ?_, ?_, fun c => ?_⟩
  · rw [ku_f _ _ _ _ (by omega)]; exact h1
  · rw [ku_f _ _ _ _ (by omega)]; exact h2 c
  · rw [ku_f _ _ _ _ (by omega)]; exact h3 j
  · rw [ku_f _ _ _ _ (by omega)]; exact h4
  · rw [ku_f _ _ _ _ (by omega)]; exact h5 c
theorem kQt_31 {σ : kS} (h : kQt σ) (i : Nat) : kQt (ku σ 31 i 1) := by
  obtain ⟨h1, h2, h3, h4, h5⟩ := h
  refine ⟨h1, h2, fun j => ?_, h4, h5⟩
  rw [ku_e]
  split
  · decide
  · exact h3 j
theorem kQt_prb {σ : kS} (h : kQt σ) (c r : Nat) : kQt (kPrb σ c r) := by
  have hf : kfail σ c r = false := by
    unfold kfail
    rw [h.2.1 c, h.1]
    simp
  unfold kPrb
  split
  · unfold kMake
    rw [if_neg (by rw [hf]; decide)]
    unfold kTakeS
    exact kQt_31 (kQt_o (kQt_o h _ _ (by decide)) _ _ (by decide)) _
  · exact h
theorem kQt_prbs {σ : kS} (h : kQt σ) : kQt (kPrbs σ) := by
  unfold kPrbs
  refine kFor_ind (P := kQt) _ (fun c τ _ h1 => ?_) σ h
  exact kFor_ind (P := kQt) _ (fun r ρ _ h2 => kQt_prb h2 c r) τ h1
theorem kQt_jr {σ : kS} (h : kQt σ) : kQt (kJR σ) := by
  unfold kJR
  exact kFor_ind (P := kQt) _ (fun r τ _ h1 => kQt_o h1 _ _ (by decide)) σ h
theorem kVd_n2 {q t : Nat} {v : Nat → Nat} (hq : 1 ≤ q) (hv : ∀ r, v r ≠ 2) : kVd q t v ≠ 2 := by
  have h0 : kcnt (fun r => t.testBit r && v r == 2) 6 = 0 := by
    rw [kcnt_congr (q := fun _ => false) (fun i _ => by
      have : (v i == 2) = false := by simpa using hv i
      rw [this, Bool.and_false])]
    decide
  unfold kVd
  rw [h0]
  split
  · decide
  · rw [if_neg (by omega)]; decide
theorem kQt_jc {σ : kS} (h : kQt σ) (hB : kB σ) : kQt (kJC σ) ∧ ∀ c, c < σ 2 0 → kJC σ 24 c ≠ 2 := by
  have key : ∀ n, n ≤ σ 2 0 → kQt (kFor (fun c τ => ku τ 24 c (kVerd τ c)) n σ) ∧ ∀ c, c < n → kFor (fun c τ => ku τ 24 c (kVerd τ c)) n σ 24 c ≠ 2 := by
    intro n
    induction n with
    | zero => exact fun _ => ⟨h, fun c hc => absurd hc (Nat.not_lt_zero _)⟩
    | succ n ih =>
      intro hn
      obtain ⟨i1, i2⟩ := ih (by omega)
      have e23 : kFor (fun c τ => ku τ 24 c (kVerd τ c)) n σ 23 n = σ 23 n := congrFun (kJC_row σ n 23 (by decide)) n
      refine ⟨kQt_o i1 _ _ (by decide), fun c hc => ?_⟩
      show ku (kFor (fun c τ => ku τ 24 c (kVerd τ c)) n σ) 24 n (kVerd (kFor (fun c τ => ku τ 24 c (kVerd τ c)) n σ) n) 24 c ≠ 2
      rw [ku_e]
      split
      · exact kVd_n2 (by rw [e23]; exact (hB.ck n (by omega)).2.2.2.1.1) (fun r => i1.2.2.1 _)
      · exact i2 c (by omega)
  exact key _ (Nat.le_refl _)
theorem kAls_id {σ : kS} : ∀ n, (∀ c, c < n → σ 24 c ≠ 2 ∧ σ 25 c = 0) → kFor (fun c τ => kAl τ c) n σ = σ := by
  intro n
  induction n with
  | zero => exact fun _ => rfl
  | succ n ih =>
    intro h
    have h1 := ih (fun c hc => h c (by omega))
    show kAl (kFor (fun c τ => kAl τ c) n σ) n = σ
    rw [h1]
    obtain ⟨a, b⟩ := h n (by omega)
    unfold kAl
    rw [if_neg (fun q => a q.1), if_neg (fun q => q.2 b)]
theorem kQt_cts {σ : kS} (h : kQt σ) : kQt (kCts σ) := by
  unfold kCts
  refine kFor_ind (P := kQt) _ (fun c τ _ h1 => ?_) σ h
  have h2 : kQt (kCt1 τ c) := by
    unfold kCt1
    split
    · exact kQt_o h1 _ _ (by decide)
    · exact h1
  unfold kCt2
  split
  · exact kQt_o h2 _ _ (by decide)
  · exact h2
theorem kQt_pass1 {σ : kS} (h : kQt σ) (hB : kB σ) (hm : σ 0 0 < 102400) : kQt (kPass1 σ) := by
  obtain ⟨-, -, p3, -⟩ := kPass1_pre hB hm
  have q3 : kQt (kJR (kPrbs (kMin σ))) := kQt_jr (kQt_prbs (kQt_o h _ _ (by decide)))
  obtain ⟨q4, v4⟩ := kQt_jc q3 p3.1
  have e2 : kJC (kJR (kPrbs (kMin σ))) 2 0 = kJR (kPrbs (kMin σ)) 2 0 := congrFun (kJC_row _ _ 2 (by decide)) 0
  unfold kPass1
  refine kQt_cts ?_
  unfold kAls
  rw [kAls_id _ (fun c hc => ⟨v4 c (by rw [e2] at hc; exact hc), q4.2.2.2.2 c⟩)]
  exact q4
theorem kQt_pass {σ : kS} (h : kQt σ) (hB : kB σ) : ∀ t, σ 0 0 + t ≤ 102400 → kQt (kPass t σ) := by
  intro t
  induction t with
  | zero => exact fun _ => h
  | succ t ih =>
    intro hm
    have h1 := ih (by omega)
    obtain ⟨b1, b2, -⟩ := kPass_in hB t (by omega) (by rw [h1.2.2.2.1]; exact Nat.zero_le _)
    exact kQt_pass1 h1 b1 (by omega)
/-- a mesh that is quiet, of so many regions, checks, windows, at most in that minute -/
def kLi (R C W T : Nat) (σ : kS) : Prop := kB σ ∧ kZ0 σ ∧ kQt σ ∧ σ 1 0 = R ∧ σ 2 0 = C ∧ σ 3 0 = W ∧ σ 0 0 ≤ T
theorem kLi_start : kLi 0 0 0 0 k00 := ⟨kB_start, kZ_start, ⟨rfl, fun _ => rfl, fun _ => (by decide : (0 : Nat) ≠ 2), rfl, fun _ => rfl⟩, rfl, rfl, rfl, Nat.le_refl _⟩
theorem kLi_addR {R C W T n : Nat} {σ : kS} (h : kLi R C W T σ) (hn : n ≤ R) (h6 : R < 6) : kLi (R + 1) C W T (kAddR σ n) := by
  obtain ⟨hB, hZ, hQ, h1, h2, h3, h0⟩ := h
  refine ⟨kB_addR hB (by omega) (by omega), kZ_addR hZ _, kQt_o (kQt_o (kQt_o hQ _ _ (by decide)) _ _ (by decide)) _ _ (by decide), ?_, ?_, ?_, ?_⟩
  · show kAddR σ n 1 0 = R + 1
    simp [kAddR, ku, h1]
  · simpa [kAddR, ku] using h2
  · simpa [kAddR, ku] using h3
  · simpa [kAddR, ku] using h0
theorem kLi_addC {R C W T t1 t2 t3 t4 : Nat} {σ : kS} (h : kLi R C W T σ) (h1a : 1 ≤ t1) (h1b : t1 ≤ 60) (h2b : t2 ≤ 1000) (h3b : t3 ≤ 3) (h4a : 1 ≤ t4) (h4b : t4 ≤ 6) (h8 : C < 8) : kLi R (C + 1) W T (kAddC σ t1 t2 t3 t4) := by
  obtain ⟨hB, hZ, hQ, h1, h2, h3, h0⟩ := h
  refine ⟨kB_addC hB hZ h1a h1b h2b h3b h4a h4b (by omega), kZ_addC hZ _ _ _ _, kQt_o (kQt_o (kQt_o (kQt_o (kQt_o hQ _ _ (by decide)) _ _ (by decide)) _ _ (by decide)) _ _ (by decide)) _ _ (by decide), ?_, ?_, ?_, ?_⟩
  · simpa [kAddC, ku] using h1
  · simp [kAddC, ku, h2]
  · simpa [kAddC, ku] using h3
  · simpa [kAddC, ku] using h0
theorem kLi_addW {R C W T i t1 t2 : Nat} {σ : kS} (h : kLi R C W T σ) (hi : i < C) (h1b : t1 ≤ 100000) (h2b : t2 ≤ 10000) (h12 : W < 12) : kLi R C (W + 1) T (kAddW σ i t1 t2) := by
  obtain ⟨hB, hZ, hQ, h1, h2, h3, h0⟩ := h
  refine ⟨kB_addW hB (by omega) h1b h2b (by omega), kZ_addW hZ _ _ _, kQt_o (kQt_o (kQt_o (kQt_o hQ _ _ (by decide)) _ _ (by decide)) _ _ (by decide)) _ _ (by decide), ?_, ?_, ?_, ?_⟩
  · simpa [kAddW, ku] using h1
  · simpa [kAddW, ku] using h2
  · simp [kAddW, ku, h3]
  · simpa [kAddW, ku] using h0
theorem kLi_pass {R C W T t : Nat} {σ : kS} (h : kLi R C W T σ) (ht : T + t ≤ 102400) : kLi R C W (T + t) (kPass t σ) ∧ kPass t σ 4 0 = 0 ∧ σ 4 0 = 0 := by
  obtain ⟨hB, hZ, hQ, h1, h2, h3, h0⟩ := h
  have hq := kQt_pass hQ hB t (by omega)
  have h4 : kPass t σ 4 0 ≤ 51000 := by rw [hq.2.2.2.1]; exact Nat.zero_le _
  obtain ⟨b1, b2, b3, b4, b5, -⟩ := kPass_in hB t (by omega) h4
  exact ⟨⟨b1, kZ_pass hZ hB t (by omega) h4, hq, b3.trans h1, b4.trans h2, b5.trans h3, by omega⟩, hq.2.2.2.1, hQ.2.2.2.1⟩
