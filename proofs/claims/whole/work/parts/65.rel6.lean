/-! ===== bounds of the remaining calls, the start, equal answers ===== -/
section REL6
variable {σ τ : kS}
theorem kB_addW (hB : kB σ) {i t1 t2 : Nat} (hi : i < σ 2 0) (h1 : t1 ≤ 100000) (h2 : t2 ≤ 10000) (hn : σ 3 0 < 12) : kB (kAddW σ i t1 t2) := by
  have e3 : kAddW σ i t1 t2 3 0 = σ 3 0 + 1 := ku_s _ _ _ _
  have f40 : ∀ q, kAddW σ i t1 t2 40 q = if q = σ 3 0 then i else σ 40 q := by intro q; simp [kAddW, ku]
  have f41 : ∀ q, kAddW σ i t1 t2 41 q = if q = σ 3 0 then t1 else σ 41 q := by intro q; simp [kAddW, ku]
  have f42 : ∀ q, kAddW σ i t1 t2 42 q = if q = σ 3 0 then t1 + t2 - 1 else σ 42 q := by intro q; simp [kAddW, ku]
  obtain ⟨h0, h1', h2', h3, h4, h5, h6, h7, h8, h9, h10, h11⟩ := hB
  refine ⟨h0, h1', h2', by rw [e3]; omega, h4, h5, h6, h7, h8, h9, fun q hq => ?_, h11⟩
  rw [e3] at hq
  rw [f40, f41, f42]
  by_cases hqn : q = σ 3 0
  · rw [if_pos hqn, if_pos hqn, if_pos hqn]; omega
  · rw [if_neg hqn, if_neg hqn, if_neg hqn]
    exact h10 q (by omega)
theorem mB_addW (hB : mB τ) {i t1 t2 : Nat} (hi : i < τ 32 0) (h1 : t1 ≤ 100000) (h2 : t2 ≤ 10000) (hn : τ 33 0 < 12) : mB (mAddW τ i t1 t2) := by
  have e33 : mAddW τ i t1 t2 33 0 = τ 33 0 + 1 := ku_s _ _ _ _
  have f18 : ∀ q, mAddW τ i t1 t2 18 q = if q = τ 33 0 then i else τ 18 q := by intro q; simp [mAddW, ku]
  have f19 : ∀ q, mAddW τ i t1 t2 19 q = if q = τ 33 0 then t1 else τ 19 q := by intro q; simp [mAddW, ku]
  have f20 : ∀ q, mAddW τ i t1 t2 20 q = if q = τ 33 0 then t1 + t2 else τ 20 q := by intro q; simp [mAddW, ku]
  obtain ⟨h0, h1', h2', h3, h4, h5, h6, h7, h8, h9, h10⟩ := hB
  refine ⟨h0, h1', h2', by rw [e33]; omega, h4, h5, h6, h7, h8, fun q hq => ?_, h10⟩
  rw [e33] at hq
  rw [f18, f19, f20]
  by_cases hqn : q = τ 33 0
  · rw [if_pos hqn, if_pos hqn, if_pos hqn]; omega
  · rw [if_neg hqn, if_neg hqn, if_neg hqn]
    exact h9 q (by omega)
theorem mB_p14 {j v : Nat} (h : mB τ) (hv : v ≤ 1) : mB (ku τ 14 j v) := by
  obtain ⟨h0, h1, h2, h3, h4, h5, h6, h7, h8, h9, h10⟩ := h
  exact ⟨h0, h1, h2, h3, h4, h5, h6, h7, fun q => ⟨by rw [ku_e]; split; exact hv; exact (h8 q).1, (h8 q).2⟩, h9, h10⟩
theorem mB_p2 {j v : Nat} (h : mB τ) (hv : v ≤ 1) : mB (ku τ 2 j v) := by
  obtain ⟨h0, h1, h2, h3, h4, h5, h6, h7, h8, h9, h10⟩ := h
  exact ⟨h0, h1, h2, h3, h4, h5, fun q => ⟨by rw [ku_e]; split; exact hv; exact (h6 q).1, (h6 q).2⟩, h7, h8, h9, h10⟩
theorem mB_p9 {j v : Nat} (h : mB τ) (hv : 1 ≤ v ∧ v ≤ 6) : mB (ku τ 9 j v) := by
  obtain ⟨h0, h1, h2, h3, h4, h5, h6, h7, h8, h9, h10⟩ := h
  exact ⟨h0, h1, h2, h3, h4, h5, h6, fun q hq => ⟨(h7 q hq).1, (h7 q hq).2.1, (h7 q hq).2.2.1, by rw [ku_e]; split; exact hv; exact (h7 q hq).2.2.2.1, (h7 q hq).2.2.2.2⟩, h8, h9, h10⟩
theorem mB_p20 {j v : Nat} (h : mB τ) (hv : v ≤ 120000) : mB (ku τ 20 j v) := by
  obtain ⟨h0, h1, h2, h3, h4, h5, h6, h7, h8, h9, h10⟩ := h
  exact ⟨h0, h1, h2, h3, h4, h5, h6, h7, h8, fun q hq => ⟨(h9 q hq).1, (h9 q hq).2.1, by rw [ku_e]; split; exact hv; exact (h9 q hq).2.2⟩, h10⟩
theorem kR_start : kR k00 kt0 :=
  ⟨⟨rfl, rfl, rfl, rfl, rfl⟩, ⟨rfl, rfl, rfl, rfl, rfl, rfl, rfl, rfl, rfl, rfl, rfl, rfl, rfl, rfl⟩, ⟨fun r _ => by show 0 = b2 0 r; unfold b2; rw [Nat.zero_testBit]; rfl, fun r _ => by show 0 = b2 0 r; unfold b2; rw [Nat.zero_testBit]; rfl, fun c r _ => by show 0 = b2 0 r; unfold b2; rw [Nat.zero_testBit]; rfl⟩,
    fun r h => absurd h (Nat.not_lt_zero _), fun c h => absurd h (Nat.not_lt_zero _), fun c h => absurd h (Nat.not_lt_zero _), fun c h => absurd h (Nat.not_lt_zero _)⟩
theorem kB_start : kB k00 := by
  refine ⟨by decide, by decide, by decide, by decide, by decide, by decide, by decide, fun r h => absurd h (Nat.not_lt_zero _), fun c h => absurd h (Nat.not_lt_zero _), fun c r h => absurd h (Nat.not_lt_zero _), fun w h => absurd h (Nat.not_lt_zero _), fun j h => absurd h (Nat.not_lt_zero _)⟩
theorem mB_start : mB kt0 := by
  refine ⟨by decide, by decide, by decide, by decide, by decide, fun r h => absurd h (Nat.not_lt_zero _), fun r => ⟨Nat.zero_le _, Nat.zero_le _⟩, fun c h => absurd h (Nat.not_lt_zero _), fun j => ⟨Nat.zero_le _, Nat.zero_le _, Nat.zero_le _, Nat.zero_le _⟩, fun w h => absurd h (Nat.not_lt_zero _), fun j h => absurd h (Nat.not_lt_zero _)⟩
theorem kZ_start : kZ0 k00 := ⟨fun _ _ => ⟨rfl, rfl⟩, fun _ _ => ⟨rfl, rfl, rfl, rfl, rfl⟩, fun _ _ => ⟨rfl, rfl, rfl⟩⟩
theorem kand_lo : ∀ r, r < 6 → ∀ m, m < 2 ^ r → m &&& (63 ^^^ 2 ^ r) = m ∧ (m ||| 2 ^ r) < 2 ^ (r + 1) := by decide +kernel
theorem kset_eq {f : Nat → Bool} {g : Nat → Nat} (h0 : g 0 = 0) (hs : ∀ n, g (n + 1) = kwr (g n) n (f n)) : ∀ n, n ≤ 6 → mSet f n = g n ∧ g n < 2 ^ n := by
  intro n
  induction n with
  | zero => exact fun _ => ⟨h0.symm, by rw [h0]; decide⟩
  | succ n ih =>
    intro hn
    obtain ⟨i1, i2⟩ := ih (by omega)
    have h9 := kand_lo n (by omega) (g n) i2
    rw [hs n]
    show (if f n then mSet f n ||| 2 ^ n else mSet f n) = _ ∧ _
    unfold kwr
    rw [i1]
    cases f n with
    | true => exact ⟨rfl, h9.2⟩
    | false =>
      refine ⟨h9.1.symm, ?_⟩
      show g n &&& (63 ^^^ 2 ^ n) < _
      rw [h9.1]
      have : 2 ^ (n + 1) = 2 * 2 ^ n := by rw [Nat.pow_succ]; omega
      omega
theorem mSet_congr {f g : Nat → Bool} {n : Nat} (h : ∀ i, i < n → f i = g i) : mSet f n = mSet g n := by
  induction n with
  | zero => rfl
  | succ n ih =>
    show (if f n then mSet f n ||| 2 ^ n else mSet f n) = (if g n then mSet g n ||| 2 ^ n else mSet g n)
    rw [ih (fun i hi => h i (by omega)), h n (by omega)]
theorem kA_failing (h : kR σ τ) (hB : kB σ) {c : Nat} (hc : c < σ 2 0) : mSet (fun r => mFl τ c r) (τ 31 0) = kFm σ c (σ 1 0) := by
  rw [h.1.2.1, mSet_congr (g := fun r => kfail σ c r) (fun r hr => kR_fl h hB hc hr)]
  exact (kset_eq (f := fun r => kfail σ c r) (g := kFm σ c) rfl (fun n => rfl) _ hB.nR).1
theorem kA_trusted (h : kR σ τ) (hB : kB σ) {c : Nat} (hc : c < σ 2 0) : mSet (fun r => mTr τ c r) (τ 31 0) = kTrm σ c (σ 1 0) := by
  rw [h.1.2.1, mSet_congr (g := fun r => kTrb σ c r) (fun r hr => kR_tr h hB hc hr)]
  exact (kset_eq (f := fun r => kTrb σ c r) (g := kTrm σ c) rfl (fun n => rfl) _ hB.nR).1
theorem kA_next (h : kR σ τ) (c r : Nat) : mNx τ c r = kNext σ c r (σ 0 0 + 1) := by
  obtain ⟨⟨e30, -⟩, ⟨-, -, e6, e7, -, -, -, -, -, -, e16, e17, -⟩, -⟩ := h
  unfold mNx kNext
  rw [e30, e16, e17, e7, e6]
  by_cases h0 : σ 32 (6 * c + r) = 0
  · rw [if_neg (show ¬ 0 < σ 32 (6 * c + r) by omega), if_neg (show ¬ σ 32 (6 * c + r) ≠ 0 from fun q => q h0)]
  · rw [if_pos (show 0 < σ 32 (6 * c + r) by omega), if_pos h0]
theorem kA_al (h : kR σ τ) (hB : kB σ) {j : Nat} (hj : j < σ 4 0) : τ 21 j % 8 = σ 50 j ∧ τ 21 j / 8 = σ 51 j ∧ τ 22 j = σ 52 j := by
  have h1 := (hB.al j hj).1
  obtain ⟨h2, h3⟩ := h.2.2.2.2.2.2 j hj
  refine ⟨by omega, by omega, h3⟩
end REL6
