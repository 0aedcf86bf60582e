/-! ===== a minute in which no vote moves moves no verdict; the potential ===== -/
def kCons (σ : kS) : Prop := (∀ r, r < σ 1 0 → (σ 15 0).testBit r = kBadv σ r) ∧ ∀ c, c < σ 2 0 → σ 24 c = kVerd σ c
theorem kBadv_congr {σ τ : kS} {r : Nat} (h2 : τ 2 = σ 2) (h31 : ∀ c, c < σ 2 0 → τ 31 (6 * c + r) = σ 31 (6 * c + r)) : kBadv τ r = kBadv σ r := by
  unfold kBadv
  rw [h2, kcnt_congr (p := fun c => τ 31 (6 * c + r) != 0) (q := fun c => σ 31 (6 * c + r) != 0) (fun c hc => by rw [h31 c hc]), kcnt_congr (p := fun c => τ 31 (6 * c + r) == 2) (q := fun c => σ 31 (6 * c + r) == 2) (fun c hc => by rw [h31 c hc])]
theorem kTrm_live {σ τ : kS} {c : Nat} (h11 : τ 11 = σ 11) (h15 : τ 15 0 = σ 15 0) (h31 : ∀ r, r < σ 1 0 → τ 31 (6 * c + r) = σ 31 (6 * c + r)) : ∀ n, n ≤ σ 1 0 → kTrm τ c n = kTrm σ c n := by
  intro n
  induction n with
  | zero => exact fun _ => rfl
  | succ n ih =>
    intro hn
    show kwr (kTrm τ c n) n (kTrb τ c n) = kwr (kTrm σ c n) n (kTrb σ c n)
    unfold kTrb
    rw [ih (by omega), h31 n hn, h11, h15]
theorem kVerd_live {σ τ : kS} {c : Nat} (hB : kB σ) (h1 : τ 1 = σ 1) (h23 : τ 23 = σ 23) (h11 : τ 11 = σ 11) (h15 : τ 15 0 = σ 15 0) (h31 : ∀ r, r < σ 1 0 → τ 31 (6 * c + r) = σ 31 (6 * c + r)) : kVerd τ c = kVerd σ c := by
  unfold kVerd kVd
  rw [h1, kTrm_live h11 h15 h31 _ (Nat.le_refl _), h23, kcnt_congr (n := 6) (p := fun r => (kTrm σ c (σ 1 0)).testBit r && τ 31 (6 * c + r) == 2) (q := fun r => (kTrm σ c (σ 1 0)).testBit r && σ 31 (6 * c + r) == 2) (fun r hr => by
    rw [kTrm_bit σ c _ hB.nR r hr]
    by_cases h : r < σ 1 0
    · rw [h31 r h]
    · rw [decide_eq_false h]; rfl)]
theorem kJR_bits {σ : kS} (hB : kB σ) : ∀ k, k ≤ σ 1 0 → ∀ r, r < 6 → (kFor (fun r τ => ku τ 15 0 (kwr (τ 15 0) r (kBadv τ r))) k σ 15 0).testBit r = if r < k then kBadv σ r else (σ 15 0).testBit r := by
  intro k
  induction k with
  | zero => intro _ r _; rw [if_neg (by omega)]; rfl
  | succ k ih =>
    intro hk r hr
    have hin : kPin [15] σ (kFor (fun r τ => ku τ 15 0 (kwr (τ 15 0) r (kBadv τ r))) k σ) := kFor_inv (P := kPin [15] σ) (n := σ 1 0) (kPin.rf hB) (fun r τ hr hτ => kJR_in hτ hr _) k (by omega)
    have i1 := ih (by omega) r hr
    show (ku (kFor _ k σ) 15 0 _ 15 0).testBit r = _
    rw [ku_s]
    generalize kFor (fun r τ => ku τ 15 0 (kwr (τ 15 0) r (kBadv τ r))) k σ = ρ at hin i1
    have h6 : k < 6 := by have := hB.nR; omega
    rw [kwr_bit k h6 _ hin.1.bad _ r hr, i1, kBadv_congr (kFr_row hin.2 (by decide)) (fun c _ => hin.2 31 _ (by decide))]
    by_cases h : r = k
    · subst h; rw [if_pos rfl, if_pos (by omega)]
    · rw [if_neg h]
      by_cases h2 : r < k
      · rw [if_pos h2, if_pos (by omega)]
      · rw [if_neg h2, if_neg (by omega)]
theorem kbit_ext {a b : Nat} (ha : a < 64) (hb : b < 64) (h : ∀ r, r < 6 → a.testBit r = b.testBit r) : a = b := by
  refine Nat.eq_of_testBit_eq (fun i => ?_)
  rcases Nat.lt_or_ge i 6 with h1 | h1
  · exact h i h1
  · have p : (64 : Nat) ≤ 2 ^ i := Nat.le_trans (by decide : 64 ≤ 2 ^ 6) (Nat.pow_le_pow_right (by decide) h1)
    rw [Nat.testBit_lt_two_pow (Nat.lt_of_lt_of_le ha p), Nat.testBit_lt_two_pow (Nat.lt_of_lt_of_le hb p)]
section POT
variable {σ : kS}
/-- rows that the minute leaves from a point on -/
theorem kP_tail (σ : kS) (g : Nat) (h1 : g ∉ kLa) (h2 : g ≠ 26) (h3 : g ≠ 27) (h4 : g ≠ 24) : kPass1 σ g = kJR (kPrbs (kMin σ)) g := by
  show kCts (kAls (kJC (kJR (kPrbs (kMin σ))))) g = _
  unfold kCts kAls kJC
  rw [kCts_row _ _ g h2 h3, kAls_row _ _ g h1, kJC_row _ _ g h4]
theorem kJR_row (σ : kS) : ∀ n g, g ≠ 15 → kFor (fun r τ => ku τ 15 0 (kwr (τ 15 0) r (kBadv τ r))) n σ g = σ g := by
  intro n
  induction n with
  | zero => exact fun _ _ => rfl
  | succ n ih => exact fun g hg => (ku_oth hg).trans (ih g hg)
theorem kP_row (σ : kS) (g : Nat) (h1 : g ∉ kLa) (h2 : g ≠ 26) (h3 : g ≠ 27) (h4 : g ≠ 24) (h5 : g ≠ 15) : kPass1 σ g = kPrbs (kMin σ) g := by
  rw [kP_tail σ g h1 h2 h3 h4]
  exact kJR_row _ _ g h5
theorem kJC_24 {σ : kS} (c : Nat) : ∀ n, kFor (fun c ρ => ku ρ 24 c (kVerd ρ c)) n σ 24 c = if c < n then kVerd σ c else σ 24 c := by
  intro n
  induction n with
  | zero => rfl
  | succ n ih =>
    show ku (kFor _ n σ) 24 n (kVerd (kFor _ n σ) n) 24 c = _
    have r := kJC_row σ n
    rw [ku_e, ih, kVerd_congr (r 23 (by decide)) (r 31 (by decide)) (r 11 (by decide)) (r 15 (by decide)) (r 1 (by decide))]
    by_cases h : c = n
    · subst h; rw [if_pos rfl, if_pos (by omega)]
    · rw [if_neg h]
      by_cases h2 : c < n
      · rw [if_pos h2, if_pos (by omega)]
      · rw [if_neg h2, if_neg (by omega)]
theorem kCons_pass (hB : kB σ) (hm : σ 0 0 < 102400) : kCons (kPass1 σ) := by
  obtain ⟨p1, p2, p3, p4⟩ := kPass1_pre hB hm
  have r : ∀ g, g ∉ kLa → g ≠ 26 → g ≠ 27 → g ≠ 24 → kPass1 σ g = kJR (kPrbs (kMin σ)) g := kP_tail σ
  have e1 : kPass1 σ 1 = kPrbs (kMin σ) 1 := kP_row σ 1 (by decide) (by decide) (by decide) (by decide) (by decide)
  have e2 : kPass1 σ 2 = kPrbs (kMin σ) 2 := kP_row σ 2 (by decide) (by decide) (by decide) (by decide) (by decide)
  have e31 : kPass1 σ 31 = kPrbs (kMin σ) 31 := kP_row σ 31 (by decide) (by decide) (by decide) (by decide) (by decide)
  refine ⟨fun q hq => ?_, fun c hc => ?_⟩
  · rw [e1] at hq
    have h6 : q < 6 := Nat.lt_of_lt_of_le hq p2.1.nR
    rw [r 15 (by decide) (by decide) (by decide) (by decide)]
    have hb := kJR_bits p2.1 _ (Nat.le_refl _) q h6
    rw [if_pos hq] at hb
    rw [kBadv_congr (σ := kPrbs (kMin σ)) e2 (fun c _ => congrFun e31 _)]
    exact hb
  · have ec : kPass1 σ 24 c = kJC (kJR (kPrbs (kMin σ))) 24 c := by
      show kCts (kAls (kJC (kJR (kPrbs (kMin σ))))) 24 c = _
      unfold kCts kAls
      rw [kCts_row _ _ 24 (by decide) (by decide), kAls_row _ _ 24 (by decide)]
    have ej : kJC (kJR (kPrbs (kMin σ))) 24 c = kVerd (kJR (kPrbs (kMin σ))) c := by
      unfold kJC
      rw [kJC_24, if_pos]
      rw [show kJR (kPrbs (kMin σ)) 2 = kPrbs (kMin σ) 2 from kJR_row _ _ 2 (by decide), ← e2]
      exact hc
    rw [ec, ej]
    exact (kVerd_congr (r 23 (by decide) (by decide) (by decide) (by decide)) (r 31 (by decide) (by decide) (by decide) (by decide)) (r 11 (by decide) (by decide) (by decide) (by decide)) (r 15 (by decide) (by decide) (by decide) (by decide)) (r 1 (by decide) (by decide) (by decide) (by decide)) c).symm
theorem kStl_rows {σ τ : kS} (h1 : τ 1 = σ 1) (h2 : τ 2 = σ 2) (h11 : τ 11 = σ 11) (h14 : τ 14 = σ 14) (h30 : τ 30 = σ 30) (h31 : τ 31 = σ 31) : kStl τ = kStl σ := by
  unfold kStl
  refine kcnt_congr (fun i _ => ?_)
  unfold kSt1
  rw [h1, h2, h31, kfail_congr h30 h11 h14]
theorem kStl_pass (σ : kS) : kStl (kPass1 σ) = kStl (kPrbs (kMin σ)) :=
  kStl_rows (kP_row σ 1 (by decide) (by decide) (by decide) (by decide) (by decide)) (kP_row σ 2 (by decide) (by decide) (by decide) (by decide) (by decide)) (kP_row σ 11 (by decide) (by decide) (by decide) (by decide) (by decide)) (kP_row σ 14 (by decide) (by decide) (by decide) (by decide) (by decide)) (kP_row σ 30 (by decide) (by decide) (by decide) (by decide) (by decide)) (kP_row σ 31 (by decide) (by decide) (by decide) (by decide) (by decide))
theorem kStl_min (σ : kS) : kStl (kMin σ) = kStl σ := kStl_rows rfl rfl rfl rfl rfl rfl
/-- any minute -/
theorem kPot1 {M : Nat} (hI : kInv M σ) (hB : kB σ) (hm : σ 0 0 < 102400) : kInv (M + 1) (kPass1 σ) ∧ kStl (kPass1 σ) ≤ kStl σ ∧ kCons (kPass1 σ) := by
  obtain ⟨p1, -⟩ := kPass1_pre hB hm
  refine ⟨kInv_min1 hI hB hm, ?_, kCons_pass hB hm⟩
  rw [kStl_pass, ← kStl_min σ]
  exact ((kSg_prbs p1.1).le p1.1).1
/-- a minute behind a minute -/
theorem kPot0 {M : Nat} (hI : kInv M σ) (hB : kB σ) (hm : σ 0 0 < 102400) (hC : kCons σ) : ∃ M' : Nat, kInv M' (kPass1 σ) ∧ M' + kStl (kPass1 σ) ≤ M + kStl σ ∧ kCons (kPass1 σ) := by
  obtain ⟨p1, p2, p3, p4⟩ := kPass1_pre hB hm
  obtain ⟨s1, s2⟩ := (kSg_prbs p1.1).le p1.1
  rcases s2 with s2 | s2
  · refine ⟨M + 1, kInv_min1 hI hB hm, ?_, kCons_pass hB hm⟩
    rw [kStl_pass]
    rw [kStl_min] at s2
    omega
  · refine ⟨M, kInv_min0 hI hB hm (fun c hc => ?_), ?_, kCons_pass hB hm⟩
    · have f := p2.2
      have q1 : kPrbs (kMin σ) 1 = σ 1 := kFr_row f (by decide)
      have q2 : kPrbs (kMin σ) 2 = σ 2 := kFr_row f (by decide)
      have v31 : ∀ c r, c < σ 2 0 → r < σ 1 0 → kPrbs (kMin σ) 31 (6 * c + r) = σ 31 (6 * c + r) := s2
      have ej : kJC (kJR (kPrbs (kMin σ))) 24 c = kVerd (kJR (kPrbs (kMin σ))) c := by
        unfold kJC
        rw [kJC_24, if_pos]
        rw [show kJR (kPrbs (kMin σ)) 2 = kPrbs (kMin σ) 2 from kJR_row _ _ 2 (by decide), q2]
        exact hc
      rw [ej, hC.2 c hc]
      have row : ∀ g, g ≠ 15 → kJR (kPrbs (kMin σ)) g = kPrbs (kMin σ) g := fun g hg => kJR_row _ _ g hg
      refine kVerd_live hB ((row 1 (by decide)).trans q1) ((row 23 (by decide)).trans (kFr_row f (by decide))) ((row 11 (by decide)).trans (kFr_row f (by decide))) ?_ (fun r hr => (congrFun (row 31 (by decide)) _).trans (v31 c r hc hr))
      have e15 : kPrbs (kMin σ) 15 = σ 15 := kFr_row f (by decide)
      refine kbit_ext p3.1.bad hB.bad (fun r hr => ?_)
      have hb := kJR_bits p2.1 _ (Nat.le_refl _) r hr
      have hb2 : (kJR (kPrbs (kMin σ)) 15 0).testBit r = if r < kPrbs (kMin σ) 1 0 then kBadv (kPrbs (kMin σ)) r else (kPrbs (kMin σ) 15 0).testBit r := hb
      rw [hb2, q1, e15]
      by_cases h : r < σ 1 0
      · rw [if_pos h, kBadv_congr q2 (fun c hc => v31 c r hc h), hC.1 r h]
      · rw [if_neg h]
    · rw [kStl_pass]
      rw [kStl_min] at s1
      omega
end POT
