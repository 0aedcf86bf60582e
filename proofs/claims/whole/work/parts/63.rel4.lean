/-! ===== one check's minute on both sides; the minute ===== -/
theorem kTrm_bit (σ : kS) (c : Nat) : ∀ n, n ≤ 6 → ∀ r, r < 6 → (kTrm σ c n).testBit r = (decide (r < n) && kTrb σ c r) := by
  intro n
  induction n with
  | zero =>
    intro _ r _
    show Nat.testBit 0 r = _
    rw [Nat.zero_testBit]
    rfl
  | succ n ih =>
    intro hn r hr
    show (kwr (kTrm σ c n) n (kTrb σ c n)).testBit r = _
    rw [kwr_bit n (by omega) _ (kTrm_lt σ c n (by omega)) _ r hr, ih (by omega) r hr]
    by_cases h : r = n
    · subst h
      rw [if_pos rfl, decide_eq_true (by omega)]
      rfl
    · rw [if_neg h]
      by_cases h2 : r < n
      · rw [decide_eq_true h2, decide_eq_true (by omega)]
      · rw [decide_eq_false h2, decide_eq_false (by omega)]
theorem kcnt_cut {p q : Nat → Bool} {n N : Nat} (hn : n ≤ N) (h : ∀ i, i < N → p i = (decide (i < n) && q i)) : kcnt p N = kcnt q n := by
  induction N with
  | zero => rw [show n = 0 by omega]; rfl
  | succ N ih =>
    by_cases h1 : n = N + 1
    · subst h1
      exact kcnt_congr (fun i hi => by rw [h i hi, decide_eq_true hi]; rfl)
    · rw [kcnt_f (by rw [h N (by omega), decide_eq_false (by omega)]; rfl)]
      exact ih (by omega) (fun i hi => h i (by omega))
section REL4
variable {σ τ : kS}
theorem kR_jd (h : kR σ τ) (hB : kB σ) {c : Nat} (hc : c < σ 2 0) : mJd τ c = kVerd σ c := by
  have hR := hB.nR
  have b := hB.ck c hc
  unfold mJd kVerd kVd
  have e15 : τ 15 = σ 31 := h.2.1.2.2.2.2.2.2.2.2.2.1
  have e9 : τ 9 = σ 23 := h.2.1.2.2.2.2.2.1
  have c1 : kcnt (fun r => (kTrm σ c (σ 1 0)).testBit r) 6 = kcnt (fun r => mTr τ c r) (σ 1 0) :=
    kcnt_cut hR (fun r hr => by
      rw [kTrm_bit σ c _ hR r hr]
      by_cases h1 : r < σ 1 0
      · rw [kR_tr h hB hc h1]
      · rw [decide_eq_false h1]; rfl)
  have c2 : kcnt (fun r => (kTrm σ c (σ 1 0)).testBit r && σ 31 (6 * c + r) == 2) 6 = kcnt (fun r => mTr τ c r && σ 31 (6 * c + r) == 2) (σ 1 0) :=
    kcnt_cut hR (fun r hr => by
      rw [kTrm_bit σ c _ hR r hr]
      by_cases h1 : r < σ 1 0
      · rw [kR_tr h hB hc h1, decide_eq_true h1]; rfl
      · rw [decide_eq_false h1]; rfl)
  rw [e15, e9, h.1.2.1, c1, c2]
theorem kR_mnt (h : kR σ τ) (c : Nat) : ∀ n, n ≤ σ 3 0 → mMt τ c n = kMnt σ c n := by
  intro n
  induction n with
  | zero => exact fun _ => rfl
  | succ n ih =>
    intro hn
    have e18 : τ 18 = σ 40 := h.2.1.2.2.2.2.2.2.2.2.2.2.2.2.1
    have e19 : τ 19 = σ 41 := h.2.1.2.2.2.2.2.2.2.2.2.2.2.2.2
    have e20 := h.2.2.2.2.2.1 n hn
    show (mMt τ c n || _) = (kMnt σ c n || _)
    rw [ih (by omega), e18, e19, h.1.1, e20]
    congr 1
    by_cases h1 : σ 41 n ≤ σ 0 0
    · rw [decide_eq_true h1]
      by_cases h2 : σ 0 0 ≤ σ 42 n
      · rw [decide_eq_true h2, decide_eq_true (by omega)]
      · rw [decide_eq_false h2, decide_eq_false (by omega)]
    · rw [decide_eq_false h1, Bool.and_false, Bool.false_and, Bool.false_and]
theorem kR_rai (h : kR σ τ) (c : Nat) : kR (kRaise σ c) (mRai τ c) := by
  obtain ⟨⟨a1, a2, a3, a4, a5⟩, b, d, p, o1, o2, o3⟩ := h
  have e34 : mRai τ c 34 0 = τ 34 0 + 1 := by simp [mRai, ku]
  have e4 : kRaise σ c 4 0 = σ 4 0 + 1 := by simp [kRaise, ku]
  have f11 : ∀ j, mRai τ c 11 j = if j = c then τ 34 0 + 1 else τ 11 j := by intro j; simp [mRai, ku]
  have f25 : ∀ j, kRaise σ c 25 j = if j = c then σ 4 0 + 1 else σ 25 j := by intro j; simp [kRaise, ku]
  have f21 : ∀ j, mRai τ c 21 j = if j = τ 34 0 then 8 * τ 30 0 + c else τ 21 j := by intro j; simp [mRai, ku]
  have f22 : ∀ j, mRai τ c 22 j = if j = τ 34 0 then 0 else τ 22 j := by intro j; simp [mRai, ku]
  have f50 : ∀ j, kRaise σ c 50 j = if j = σ 4 0 then c else σ 50 j := by intro j; simp [kRaise, ku]
  have f51 : ∀ j, kRaise σ c 51 j = if j = σ 4 0 then σ 0 0 else σ 51 j := by intro j; simp [kRaise, ku]
  have f52 : ∀ j, kRaise σ c 52 j = if j = σ 4 0 then 0 else σ 52 j := by intro j; simp [kRaise, ku]
  refine ⟨⟨a1, a2, a3, a4, by rw [e34, e4, a5]⟩, b, d, p, fun q hq => ?_, o2, fun j hj => ?_⟩
  · rw [f11, f25, a5, o1 q hq]
  · rw [e4] at hj
    rw [f21, f22, f50, f51, f52, a5, a1]
    by_cases hjn : j = σ 4 0
    · rw [if_pos hjn, if_pos hjn, if_pos hjn, if_pos hjn, if_pos hjn]
      exact ⟨rfl, rfl⟩
    · rw [if_neg hjn, if_neg hjn, if_neg hjn, if_neg hjn, if_neg hjn]
      exact o3 j (by omega)
theorem kR_clo (h : kR σ τ) {c : Nat} (hc : c < σ 2 0) : kR (kClose σ c) (mClo τ c) := by
  obtain ⟨⟨a1, a2, a3, a4, a5⟩, b, d, p, o1, o2, o3⟩ := h
  have f11 : ∀ j, mClo τ c 11 j = if j = c then 0 else τ 11 j := by intro j; simp [mClo, ku]
  have f25 : ∀ j, kClose σ c 25 j = if j = c then 0 else σ 25 j := by intro j; simp [kClose, ku]
  have f22 : ∀ j, mClo τ c 22 j = if j = τ 11 c - 1 then τ 30 0 + 1 else τ 22 j := by intro j; simp [mClo, ku]
  have f52 : ∀ j, kClose σ c 52 j = if j = σ 25 c - 1 then σ 0 0 + 1 else σ 52 j := by intro j; simp [kClose, ku]
  refine ⟨⟨a1, a2, a3, a4, a5⟩, b, d, p, fun q hq => ?_, o2, fun j hj => ⟨(o3 j hj).1, ?_⟩⟩
  · rw [f11, f25, o1 q hq]
  · rw [f22, f52, o1 c hc, a1, (o3 j hj).2]
theorem kR_al (h : kR σ τ) {c : Nat} (hc : c < σ 2 0) : kR (kAl σ c) (mRs τ c) := by
  have e10 : τ 10 = σ 24 := h.2.1.2.2.2.2.2.2.1
  unfold kAl mRs
  rw [e10, h.2.2.2.2.1 c hc, h.1.2.2.2.1, kR_mnt h c _ (Nat.le_refl _)]
  split
  · exact kR_rai h c
  · split
    · exact kR_clo h hc
    · exact h
theorem kR_ct (h : kR σ τ) (c : Nat) : kR (kCt2 (kCt1 σ c) c) (mU2 (mU1 τ c) c) := by
  have hcopy := h
  obtain ⟨-, ⟨-, -, -, -, -, -, e10, e12, e13, -⟩, -⟩ := hcopy
  have h1 : kR (kCt1 σ c) (ku τ 13 c (τ 13 c + if 0 < τ 10 c then 1 else 0)) := by
    unfold kCt1
    rw [e10, e13]
    by_cases h0 : σ 24 c = 0
    · rw [if_neg (by simpa using h0), if_neg (by omega), Nat.add_zero, ← e13, ku_self]
      exact h
    · rw [if_pos h0, if_pos (by omega)]
      exact kR_f1 h (by decide)
  have e24 : kCt1 σ c 24 c = σ 24 c := kCt1_fr σ c 24 c (by decide)
  have e26 : kCt1 σ c 26 c = σ 26 c := kCt1_fr σ c 26 c (by decide)
  have em : mU2 (mU1 τ c) c = ku (ku τ 13 c (τ 13 c + if 0 < τ 10 c then 1 else 0)) 12 c (τ 12 c + if τ 10 c = 1 then 1 else 0) := by
    unfold mU2 mU1
    rw [ku_comm _ _ _ (Or.inl (by decide))]
    rfl
  rw [em]
  unfold kCt2
  rw [e24, e26, e10, e12]
  by_cases h0 : σ 24 c = 1
  · rw [if_pos h0, if_pos h0]
    rw [e10] at h1
    exact kR_f1 h1 (by decide)
  · rw [if_neg h0, if_neg h0, Nat.add_zero]
    rw [e10] at h1
    have e9 : ku τ 13 c (τ 13 c + if 0 < σ 24 c then 1 else 0) 12 c = σ 26 c := by rw [ku_f _ _ _ _ (by decide), e12]
    rw [← e9, ku_self]
    exact h1
theorem kR_c1 (h : kR σ τ) (hB : kB σ) {c : Nat} (hc : c < σ 2 0) : kR (kC1 σ c) (mC τ c) := by
  unfold kC1 mC
  rw [kR_jd h hB hc]
  exact kR_ct (kR_al (kR_f1 h (by decide)) hc) c
/-- the bounds on the way of the fused loop -/
theorem kC1_up (σ : kS) (c : Nat) : σ 4 0 ≤ kC1 σ c 4 0 := by
  have h1 := kAl_up (ku σ 24 c (kVerd σ c)) c
  have e : kC1 σ c 4 0 = kAl (ku σ 24 c (kVerd σ c)) c 4 0 := by
    unfold kC1
    rw [kCt2_fr _ _ 4 0 (by decide), kCt1_fr _ _ 4 0 (by decide)]
  rw [e]
  exact h1
theorem kC1s_mono {σ : kS} {k n : Nat} (h : k ≤ n) : kFor (fun c ρ => kC1 ρ c) k σ 4 0 ≤ kFor (fun c ρ => kC1 ρ c) n σ 4 0 := by
  induction n with
  | zero => rw [Nat.le_zero.mp h]; exact Nat.le_refl _
  | succ n ih =>
    rcases Nat.lt_or_ge k (n + 1) with h1 | h1
    · exact Nat.le_trans (ih (by omega)) (kC1_up _ _)
    · rw [show k = n + 1 by omega]; exact Nat.le_refl _
abbrev kLc : List Nat := [24, 25, 52, 50, 51, 4, 26, 27]
theorem kC1_in {σ τ : kS} (h : kPin kLc σ τ) {c : Nat} (hc : c < σ 2 0) (hn : kC1 τ c 4 0 ≤ 51000) : kPin kLc σ (kC1 τ c) := by
  have hB1 : kB (ku τ 24 c (kVerd τ c)) := kB_p24 h.1 (kVd_le _ _ _)
  have e : kC1 τ c 4 0 = kAl (ku τ 24 c (kVerd τ c)) c 4 0 := by
    unfold kC1
    rw [kCt2_fr _ _ 4 0 (by decide), kCt1_fr _ _ 4 0 (by decide)]
  rw [e] at hn
  have h2 := kAl_in (kPin.rf hB1) (show c < ku τ 24 c (kVerd τ c) 2 0 from by rw [ku_f _ _ _ _ (by decide), h.2 2 0 (by decide)]; exact hc) hn
  have h3 := kCt2_in (kCt1_in (kPin.rf (L := [26, 27]) h2.1) c) c
  refine ⟨h3.1, fun g j hg => ?_⟩
  simp only [List.mem_cons, List.not_mem_nil, or_false, not_or] at hg
  show kCt2 (kCt1 (kAl _ c) c) c g j = _
  rw [h3.2 g j (by simp [hg]), h2.2 g j (by simp [hg]), ku_f _ _ _ _ hg.1, h.2 g j (by simp [hg])]
theorem kR_pc (h : kR σ τ) (hB : kB σ) (hn : kCts (kAls (kJC σ)) 4 0 ≤ 51000) : kR (kCts (kAls (kJC σ))) (mPc τ) := by
  rw [kC_all] at hn ⊢
  unfold mPc
  rw [h.1.2.2.1]
  suffices K : ∀ k, k ≤ σ 2 0 → kR (kFor (fun c ρ => kC1 ρ c) k σ) (kFor (fun c ρ => mC ρ c) k τ) ∧ kPin kLc σ (kFor (fun c ρ => kC1 ρ c) k σ) from (K _ (Nat.le_refl _)).1
  intro k
  induction k with
  | zero => exact fun _ => ⟨h, kPin.rf hB⟩
  | succ k ih =>
    intro hk
    obtain ⟨i1, i2⟩ := ih (by omega)
    exact ⟨kR_c1 i1 i2.1 (by rw [i2.2 2 0 (by decide)]; omega), kC1_in i2 (by omega) (Nat.le_trans (kC1s_mono (k := k + 1) hk) hn)⟩
theorem kR_min (h : kR σ τ) : kR (kMin σ) (ku τ 30 0 (τ 30 0 + 1)) := by
  obtain ⟨⟨a1, a2, a3, a4, a5⟩, b, d, p, o⟩ := h
  refine ⟨⟨?_, a2, a3, a4, a5⟩, b, d, p, o⟩
  show ku τ 30 0 (τ 30 0 + 1) 30 0 = ku σ 0 0 (σ 0 0 + 1) 0 0
  rw [ku_s, ku_s, a1]
theorem kR_pass1 (h : kR σ τ) (hB : kB σ) (hm : σ 0 0 < 102400) (hn : kPass1 σ 4 0 ≤ 51000) : kR (kPass1 σ) (mPass1 τ) := by
  obtain ⟨p1, p2, p3, p4⟩ := kPass1_pre hB hm
  have h1 := kR_prbs (kR_min h) p1.1
  have h2 := kR_jr h1 p2.1
  exact kR_pc h2 p3.1 hn
theorem kR_pass (h : kR σ τ) (hB : kB σ) : ∀ t, σ 0 0 + t ≤ 102400 → kPass t σ 4 0 ≤ 51000 → kR (kPass t σ) (mPass t τ) := by
  intro t
  induction t with
  | zero => exact fun _ _ => h
  | succ t ih =>
    intro hm hn
    have hmo : kPass t σ 4 0 ≤ 51000 := Nat.le_trans (kPass_mono (Nat.le_succ t)) hn
    have hin := kPass_in hB t (by omega) hmo
    exact kR_pass1 (ih (by omega) hmo) hin.1 (by omega) hn
end REL4
