/-! ===== the potential over the calls of a script; the room ===== -/
def kPh (n M : Nat) (σ : kS) : Prop := kInv M σ ∧ ((kCons σ ∧ 2 * (M + kStl σ) ≤ 49 * n) ∨ 2 * M + 49 ≤ 49 * n)
theorem kPh_start : kPh 0 0 k00 := by
  refine ⟨⟨fun _ => 0, rfl, fun c h => absurd h (Nat.not_lt_zero _)⟩, Or.inl ⟨⟨fun r h => absurd h (Nat.not_lt_zero _), fun c h => absurd h (Nat.not_lt_zero _)⟩, ?_⟩⟩
  have e : kStl k00 = 0 := by decide +kernel
  rw [e]
  decide
theorem kPh_up {n M : Nat} {σ : kS} (h : kPh n M σ) : kPh (n + 1) M σ := ⟨h.1, h.2.elim (fun q => Or.inl ⟨q.1, by have := q.2; omega⟩) (fun q => Or.inr (by omega))⟩
theorem kPh_touch {n M : Nat} {σ τ : kS} (h : kPh n M σ) (hI : kInv M τ) : kPh (n + 1) M τ := ⟨hI, Or.inr (h.2.elim (fun q => by have := q.2; omega) (fun q => by omega))⟩
theorem kInv_rows {M : Nat} {σ τ : kS} (h : kInv M σ) (h2 : τ 2 = σ 2) (h4 : τ 4 = σ 4) (h24 : τ 24 = σ 24) (h25 : τ 25 = σ 25) : kInv M τ := by
  obtain ⟨a, g1, g2⟩ := h
  refine ⟨a, by rw [h4, h2]; exact g1, fun c hc => ?_⟩
  rw [h2] at hc
  exact kPoA_same (g2 c hc) (congrFun h24 c) (congrFun h25 c)
theorem kInv_addC {M : Nat} {σ : kS} (h : kInv M σ) (hZ : kZ0 σ) (t1 t2 t3 t4 : Nat) : kInv M (kAddC σ t1 t2 t3 t4) := by
  have e2 : kAddC σ t1 t2 t3 t4 2 0 = σ 2 0 + 1 := ku_s _ _ _ _
  obtain ⟨a, g1, g2⟩ := h
  refine ⟨fun i => if i = σ 2 0 then 0 else a i, ?_, fun c hc => ?_⟩
  · rw [e2]
    show σ 4 0 = kSum (fun i => if i = σ 2 0 then 0 else a i) (σ 2 0) + (if σ 2 0 = σ 2 0 then 0 else a (σ 2 0))
    rw [if_pos rfl, kSum_congr (b := a) (fun i hi => if_neg (by omega)), ← g1]
    rfl
  · rw [e2] at hc
    by_cases hcn : c = σ 2 0
    · obtain ⟨z24, z25, -⟩ := hZ.2.1 c (by omega)
      have f : (fun i => if i = σ 2 0 then 0 else a i) c = 0 := if_pos hcn
      rw [f]
      show kPoA M 0 σ c
      unfold kPoA kPrA
      rw [z24, z25]
      omega
    · have f : (fun i => if i = σ 2 0 then 0 else a i) c = a c := if_neg hcn
      rw [f]
      exact g2 c (by omega)
theorem kPh_max {n M : Nat} {σ : kS} (h : kPh n M σ) (hn : n ≤ 512) (hC : σ 2 0 ≤ 8) : σ 4 0 ≤ 50180 := by
  have h1 := kInv_le h.1
  have hM : M ≤ 12544 := by
    rcases h.2 with q | q
    · have := q.2; omega
    · omega
  have h2 : σ 2 0 * (M + 1) ≤ 8 * 12545 := Nat.mul_le_mul hC (by omega)
  omega
/-- minutes behind a minute -/
theorem kPot_run {M K : Nat} {σ : kS} (hI : kInv M σ) (hB : kB σ) (hC : kCons σ) (hK : M + kStl σ ≤ K) (hK2 : K ≤ 12544) : ∀ t, σ 0 0 + t ≤ 102400 → ∃ M' : Nat, kInv M' (kPass t σ) ∧ M' + kStl (kPass t σ) ≤ K ∧ kCons (kPass t σ) ∧ kPass t σ 4 0 ≤ 50180 ∧ kB (kPass t σ) := by
  have top : ∀ (M' : Nat) (ρ : kS), kInv M' ρ → M' ≤ 12544 → ρ 2 0 ≤ 8 → ρ 4 0 ≤ 50180 := by
    intro M' ρ h1 h2 h3
    have h4 := kInv_le h1
    have h5 : ρ 2 0 * (M' + 1) ≤ 8 * 12545 := Nat.mul_le_mul h3 (by omega)
    omega
  intro t
  induction t with
  | zero => exact fun _ => ⟨M, hI, hK, hC, top M σ hI (by omega) hB.nC, hB⟩
  | succ t ih =>
    intro hm
    obtain ⟨M', a1, a2, a3, a4, a5⟩ := ih (by omega)
    have a0 := (kPass_in hB t (by omega) (by omega)).2.1
    obtain ⟨M2, b1, b2', b3⟩ := kPot0 a1 a5 (by omega) a3
    have e2 : kPass1 (kPass t σ) 2 0 = kPass t σ 2 0 := congrFun ((kP_row _ 2 (by decide) (by decide) (by decide) (by decide) (by decide)).trans (kFr_row (kPass1_pre a5 (by omega)).2.1.2 (by decide))) 0
    have b4 : kPass1 (kPass t σ) 4 0 ≤ 50180 := top M2 _ b1 (by omega) (by rw [e2]; exact a5.nC)
    exact ⟨M2, b1, by show M2 + kStl (kPass1 (kPass t σ)) ≤ K; omega, b3, b4, (kPass1_in a5 (by omega) (by omega)).1⟩
theorem kPass_s (t : Nat) (σ : kS) : kPass (t + 1) σ = kPass t (kPass1 σ) := by
  induction t with
  | zero => rfl
  | succ t ih =>
    show kPass1 (kPass (t + 1) σ) = kPass1 (kPass t (kPass1 σ))
    rw [ih]
theorem kPh_pass {n M t : Nat} {σ : kS} (h : kPh n M σ) (hB : kB σ) (hn : n < 512) (ht : 1 ≤ t) (hm : σ 0 0 + t ≤ 102400) : (∃ M' : Nat, kPh (n + 1) M' (kPass t σ)) ∧ kPass t σ 4 0 ≤ 50180 := by
  obtain ⟨hI, hd⟩ := h
  rcases hd with ⟨hC, hp⟩ | hp
  · obtain ⟨M', a1, a2, a3, a4, -⟩ := kPot_run hI hB hC (Nat.le_refl _) (by omega) t hm
    exact ⟨⟨M', a1, Or.inl ⟨a3, by omega⟩⟩, a4⟩
  · obtain ⟨k, rfl⟩ : ∃ k, t = k + 1 := ⟨t - 1, by omega⟩
    obtain ⟨b1, b2', b3⟩ := kPot1 hI hB (by omega)
    have hS := kStl_le σ
    have e2 : kPass1 σ 2 0 = σ 2 0 := congrFun ((kP_row _ 2 (by decide) (by decide) (by decide) (by decide) (by decide)).trans (kFr_row (kPass1_pre hB (by omega)).2.1.2 (by decide))) 0
    have hA : kPass1 σ 4 0 ≤ 51000 := by
      have h4 := kInv_le b1
      have h5 : kPass1 σ 2 0 * (M + 1 + 1) ≤ 8 * 12546 := Nat.mul_le_mul (by rw [e2]; exact hB.nC) (by omega)
      omega
    obtain ⟨c1, c2, -⟩ := kPass1_in hB (by omega) hA
    rw [kPass_s]
    obtain ⟨M', a1, a2, a3, a4, -⟩ := kPot_run (K := M + 49) b1 c1 b3 (by omega) (by omega) k (by omega)
    exact ⟨⟨M', a1, Or.inl ⟨a3, by omega⟩⟩, a4⟩
theorem kTc_le (n : Nat) : kTc n ≤ 2 * n := by
  induction n with
  | zero => exact Nat.le_refl _
  | succ n ih =>
    show kTc n + (1 + kgc n) ≤ _
    have : kgc n ≤ 1 := by unfold kgc; split <;> omega
    omega
theorem kTs_le (n : Nat) : kTs n ≤ 3 * n + 4 * kcap n := by
  induction n with
  | zero => exact Nat.zero_le _
  | succ n ih =>
    show kTs n + (3 + kgs n) ≤ _
    unfold kgs
    by_cases h : n < kcap n
    · rw [if_pos h, kcap_same h]; omega
    · rw [if_neg h]
      by_cases h0 : n = 0
      · subst h0
        show kTs 0 + (3 + kcap 1) ≤ 3 * 1 + 4 * kcap 1
        have : kTs 0 = 0 := rfl
        omega
      · obtain ⟨g1, g2⟩ := kcap_full h h0
        rw [kcap_next h h0]
        omega
