/-! ===== the class's state and the reference's ===== -/
def b2 (m r : Nat) : Nat := if m.testBit r then 1 else 0
def kRn (σ τ : kS) : Prop := τ 30 0 = σ 0 0 ∧ τ 31 0 = σ 1 0 ∧ τ 32 0 = σ 2 0 ∧ τ 33 0 = σ 3 0 ∧ τ 34 0 = σ 4 0
def kRf (σ τ : kS) : Prop := τ 4 = σ 12 ∧ τ 5 = σ 13 ∧ τ 6 = σ 20 ∧ τ 7 = σ 21 ∧ τ 8 = σ 22 ∧ τ 9 = σ 23 ∧ τ 10 = σ 24 ∧ τ 12 = σ 26 ∧ τ 13 = σ 27 ∧ τ 15 = σ 31 ∧ τ 16 = σ 32 ∧ τ 17 = σ 33 ∧ τ 18 = σ 40 ∧ τ 19 = σ 41
def kRb (σ τ : kS) : Prop := (∀ r, r < 6 → τ 2 r = b2 (σ 14 0) r) ∧ (∀ r, r < 6 → τ 3 r = b2 (σ 15 0) r) ∧ ∀ c r, r < 6 → τ 14 (6 * c + r) = b2 (σ 30 c) r
def kRp (σ τ : kS) : Prop := ∀ r, r < σ 1 0 → τ 1 r = σ 10 r ∧ σ 11 r = kwr (if σ 10 r = 0 then 0 else σ 11 (σ 10 r - 1)) r true
def kRo (σ τ : kS) : Prop := (∀ c, c < σ 2 0 → τ 11 c = σ 25 c) ∧ (∀ w, w < σ 3 0 → τ 20 w = max (σ 42 w + 1) (σ 41 w)) ∧ ∀ j, j < σ 4 0 → τ 21 j = 8 * σ 51 j + σ 50 j ∧ τ 22 j = σ 52 j
def kR (σ τ : kS) : Prop := kRn σ τ ∧ kRf σ τ ∧ kRb σ τ ∧ kRp σ τ ∧ kRo σ τ
theorem b2_le (m r : Nat) : b2 m r ≤ 1 := by
  unfold b2
  split <;> omega
theorem b2_1 (m r : Nat) : (b2 m r == 1) = m.testBit r := by
  unfold b2
  cases m.testBit r <;> rfl
theorem kor_and : ∀ r, r < 6 → ∀ P, P < 64 → ∀ S, S < 64 → (((P ||| 2 ^ r) &&& S) != 0) = (((P &&& S) != 0) || S.testBit r) := by decide +kernel
theorem mUp_path {σ τ : kS} (hB : kB σ) (hp : kRp σ τ) {g S : Nat} (hS : S < 64) (hg : ∀ r, r < 6 → τ g r = b2 S r) : ∀ n z, z ≤ n → z ≤ σ 1 0 → mUp τ g n z = (decide (z ≠ 0) && (σ 11 (z - 1) &&& S) != 0) := by
  have hR := hB.nR
  intro n
  induction n with
  | zero =>
    intro z hz _
    rw [show z = 0 by omega]
    rfl
  | succ n ih =>
    intro z hz hzn
    cases z with
    | zero => rfl
    | succ r =>
      obtain ⟨h1, h2⟩ := hp r (by omega)
      have hr := hB.rg r (by omega)
      have h6 : r < 6 := by omega
      show (τ g r == 1 || mUp τ g n (τ 1 r)) = _
      rw [h1, ih (σ 10 r) (by omega) (by omega), hg r h6, b2_1]
      show _ = (true && (σ 11 r &&& S) != 0)
      rw [h2]
      by_cases h0 : σ 10 r = 0
      · rw [h0]
        rw [show kwr (if (0 : Nat) = 0 then 0 else σ 11 (0 - 1)) r true = 0 ||| 2 ^ r from rfl, kor_and r h6 0 (by decide) S hS]
        simp
      · rw [if_neg h0, show kwr (σ 11 (σ 10 r - 1)) r true = σ 11 (σ 10 r - 1) ||| 2 ^ r from rfl, kor_and r h6 _ (hB.rg _ (by omega)).1 S hS, decide_eq_true h0]
        simp [Bool.or_comm]
section REL
variable {σ τ : kS}
theorem kR_fl (h : kR σ τ) (hB : kB σ) {c r : Nat} (hc : c < σ 2 0) (hr : r < σ 1 0) : mFl τ c r = kfail σ c r := by
  have h6 := hB.r6 hr
  unfold mFl kfail
  rw [mUp_path hB h.2.2.2.1 hB.cut h.2.2.1.1 6 (r + 1) (by omega) hr, h.2.2.1.2.2 c r h6, b2_1]
  simp
theorem kR_tr (h : kR σ τ) (hB : kB σ) {c r : Nat} (hc : c < σ 2 0) (hr : r < σ 1 0) : mTr τ c r = kTrb σ c r := by
  have h6 := hB.r6 hr
  unfold mTr kTrb
  rw [mUp_path hB h.2.2.2.1 hB.bad h.2.2.1.2.1 6 (r + 1) (by omega) hr, h.2.1.2.2.2.2.2.2.2.2.2.1]
  have e : decide (0 < σ 31 (6 * c + r)) = (σ 31 (6 * c + r) != 0) := by
    by_cases h0 : σ 31 (6 * c + r) = 0
    · rw [h0]; rfl
    · rw [decide_eq_true (by omega)]
      simp [h0]
  rw [e]
  show ((σ 31 (6 * c + r) != 0) && !(true && !((σ 11 r &&& σ 15 0) == 0))) = ((σ 31 (6 * c + r) != 0) && ((σ 11 r &&& σ 15 0) == 0))
  cases (σ 11 r &&& σ 15 0) == 0 <;> rfl
theorem kR_due (h : kR σ τ) (hB : kB σ) {c r : Nat} (hc : c < σ 2 0) (hr : r < σ 1 0) : mDue τ c r = decide (kNext σ c r (σ 0 0) = σ 0 0) := by
  have hk := hB.ck c hc
  obtain ⟨⟨e30, -⟩, ⟨-, -, e6, e7, -, -, -, -, -, -, e16, e17, -⟩, -⟩ := h
  unfold mDue kNext mSch
  rw [e30, e16, e17, e7, e6]
  by_cases h0 : σ 32 (6 * c + r) = 0
  · rw [if_neg (by omega), if_neg (by simpa using h0)]
    by_cases h1 : σ 0 0 ≤ σ 21 c + r
    · rw [if_pos h1]
      by_cases h2 : σ 21 c + r = σ 0 0
      · rw [h2]; simp
      · rw [decide_eq_false (by omega), decide_eq_false h2]; rfl
    · rw [if_neg h1, decide_eq_true (by omega)]
      by_cases h2 : (σ 0 0 - (σ 21 c + r)) % σ 20 c = 0
      · rw [if_pos h2, h2]; simp
      · rw [if_neg h2]
        have hlt := Nat.mod_lt (σ 0 0 - (σ 21 c + r)) (show 0 < σ 20 c by omega)
        rw [decide_eq_false (by omega)]
        simpa using h2
  · rw [if_pos (by omega), if_pos h0]
    by_cases h2 : σ 33 (6 * c + r) = σ 0 0 <;> simp [h2]
/-- the same place of the same row -/
theorem ku_row {f g i v : Nat} (h : τ f = σ g) : ku τ f i v f = ku σ g i v g := by
  funext j
  simp only [ku_e, h]
theorem ku_oth {f i v g : Nat} (h : g ≠ f) : ku σ f i v g = σ g := funext fun j => ku_f _ _ _ _ h
/-- fields that the relation does not bind to others -/
theorem kR_f1 (h : kR σ τ) {f g i v : Nat} (hfg : (f, g) ∈ [(4, 12), (5, 13), (10, 24), (12, 26), (13, 27), (15, 31), (16, 32), (17, 33)]) : kR (ku σ g i v) (ku τ f i v) := by
  obtain ⟨a, b, d, p, o⟩ := h
  obtain ⟨b1, b2', b3, b4, b5, b6, b7, b8, b9, b10, b11, b12, b13, b14⟩ := b
  simp only [List.mem_cons, List.not_mem_nil, or_false, Prod.mk.injEq] at hfg
  rcases hfg with ⟨rfl, rfl⟩ | ⟨rfl, rfl⟩ | ⟨rfl, rfl⟩ | ⟨rfl, rfl⟩ | ⟨rfl, rfl⟩ | ⟨rfl, rfl⟩ | ⟨rfl, rfl⟩ | ⟨rfl, rfl⟩
  · exact ⟨a, ⟨ku_row b1, b2', b3, b4, b5, b6, b7, b8, b9, b10, b11, b12, b13, b14⟩, d, p, o⟩
  · exact ⟨a, ⟨b1, ku_row b2', b3, b4, b5, b6, b7, b8, b9, b10, b11, b12, b13, b14⟩, d, p, o⟩
  · exact ⟨a, ⟨b1, b2', b3, b4, b5, b6, ku_row b7, b8, b9, b10, b11, b12, b13, b14⟩, d, p, o⟩
  · exact ⟨a, ⟨b1, b2', b3, b4, b5, b6, b7, ku_row b8, b9, b10, b11, b12, b13, b14⟩, d, p, o⟩
  · exact ⟨a, ⟨b1, b2', b3, b4, b5, b6, b7, b8, ku_row b9, b10, b11, b12, b13, b14⟩, d, p, o⟩
  · exact ⟨a, ⟨b1, b2', b3, b4, b5, b6, b7, b8, b9, ku_row b10, b11, b12, b13, b14⟩, d, p, o⟩
  · exact ⟨a, ⟨b1, b2', b3, b4, b5, b6, b7, b8, b9, b10, ku_row b11, b12, b13, b14⟩, d, p, o⟩
  · exact ⟨a, ⟨b1, b2', b3, b4, b5, b6, b7, b8, b9, b10, b11, ku_row b12, b13, b14⟩, d, p, o⟩
theorem ku_comm (σ : kS) {f g i j : Nat} (v w : Nat) (h : f ≠ g ∨ i ≠ j) : ku (ku σ f i v) g j w = ku (ku σ g j w) f i v := by
  funext x y
  simp only [ku]
  by_cases h1 : x = g ∧ y = j <;> by_cases h2 : x = f ∧ y = i
  · exfalso; omega
  · rw [if_pos h1, if_neg h2, if_pos h1]
  · rw [if_neg h1, if_pos h2, if_pos h2]
  · rw [if_neg h1, if_neg h2, if_neg h2, if_neg h1]
theorem kR_prb (h : kR σ τ) (hB : kB σ) {c r : Nat} (hc : c < σ 2 0) (hr : r < σ 1 0) : kR (kPrb σ c r) (mPrb τ c r) := by
  have hd := kR_due h hB hc hr
  have hf := kR_fl h hB hc hr
  have e30 := h.1.1
  have hcopy := h
  obtain ⟨-, ⟨e4, e5, e6, e7, e8, e9, e10, e12, e13, e15, e16, e17, -⟩, -⟩ := hcopy
  unfold kPrb mPrb
  by_cases h1 : kNext σ c r (σ 0 0) = σ 0 0
  · rw [decide_eq_true h1] at hd
    rw [if_pos h1, if_neg (by rw [hd]; decide), hf]
    unfold kMake
    cases hk : kfail σ c r with
    | false =>
      rw [if_neg (by decide), if_pos rfl]
      unfold kTakeS mPr2
      rw [e4, ku_comm τ 0 (σ 12 r + 1) (Or.inl (by decide))]
      exact kR_f1 (kR_f1 (kR_f1 h (by decide)) (by decide)) (by decide)
    | true =>
      rw [if_pos rfl, if_neg (by decide)]
      unfold kTakeF mPr3 mPr2
      have ea : ku (ku (ku τ 16 (6 * c + r) 0) 4 r (τ 4 r + 1)) 5 r (τ 5 r + 1) 15 = σ 31 := e15
      have eb : ku (ku (ku τ 16 (6 * c + r) 0) 4 r (τ 4 r + 1)) 5 r (τ 5 r + 1) 8 = σ 22 := e8
      have ec : ku (ku (ku τ 16 (6 * c + r) 0) 4 r (τ 4 r + 1)) 5 r (τ 5 r + 1) 30 0 = σ 0 0 := e30
      have ed : ku (ku σ 12 r (σ 12 r + 1)) 13 r (σ 13 r + 1) 31 = σ 31 := rfl
      have ee : ku (ku σ 12 r (σ 12 r + 1)) 13 r (σ 13 r + 1) 22 = σ 22 := rfl
      have eg : ku (ku σ 12 r (σ 12 r + 1)) 13 r (σ 13 r + 1) 32 = σ 32 := rfl
      rw [ea, eb, ec, ed, ee, eg, e16]
      have base : kR (ku (ku (ku σ 12 r (σ 12 r + 1)) 13 r (σ 13 r + 1)) 32 (6 * c + r) 0) (ku (ku (ku τ 16 (6 * c + r) 0) 4 r (τ 4 r + 1)) 5 r (τ 5 r + 1)) := by
        rw [ku_comm τ 0 (τ 4 r + 1) (Or.inl (by decide)), ku_comm _ 0 (τ 5 r + 1) (Or.inl (by decide)), e4, e5]
        exact kR_f1 (kR_f1 (kR_f1 h (by decide)) (by decide)) (by decide)
      by_cases h2 : σ 31 (6 * c + r) = 2
      · rw [if_pos h2, if_pos h2]
        exact base
      · rw [if_neg h2, if_neg h2]
        by_cases h3 : σ 22 c < σ 32 (6 * c + r) + 1
        · rw [if_pos h3, if_neg (by omega)]
          exact kR_f1 base (by decide)
        · rw [if_neg h3, if_pos (by omega)]
          exact kR_f1 (kR_f1 base (by decide)) (by decide)
  · rw [decide_eq_false h1] at hd
    rw [if_neg h1, if_pos hd]
    exact h
end REL
