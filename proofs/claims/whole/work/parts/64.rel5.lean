/-! ===== the other calls keep the relation and the bounds ===== -/
theorem kBand {P Q : Prop} (h1 : P) (h2 : Q) : P ∧ Q := ⟨h1, h2⟩
section REL5
variable {σ τ : kS}
theorem kR_t (h : kR σ τ) (v : Nat) : kR σ (mT τ v) := h
theorem mB_t (h : mB τ) (v : Nat) : mB (mT τ v) := h
def mAddR (τ : kS) (p : Nat) : kS := ku (ku (mT τ 0) 1 (τ 31 0) p) 31 0 (τ 31 0 + 1)
def mAddC (τ : kS) (t1 t2 t3 t4 : Nat) : kS := ku (ku (ku (ku (ku (ku (mT τ 0) 6 (τ 32 0) t1) 7 (τ 32 0) t2) 8 (τ 32 0) t3) 9 (τ 32 0) t4) 11 (τ 32 0) 0) 32 0 (τ 32 0 + 1)
def mAddW (τ : kS) (i t1 t2 : Nat) : kS := ku (ku (ku (ku (mT τ 0) 18 (τ 33 0) i) 19 (τ 33 0) t1) 20 (τ 33 0) (t1 + t2)) 33 0 (τ 33 0 + 1)
theorem kR_addR (h : kR σ τ) (hB : kB σ) {p : Nat} (hp : p ≤ σ 1 0) (hn : σ 1 0 < 6) : kR (kAddR σ p) (mAddR τ p) := by
  obtain ⟨⟨a1, a2, a3, a4, a5⟩, b, d, pp, o⟩ := h
  have e31 : mAddR τ p 31 0 = σ 1 0 + 1 := by unfold mAddR; rw [ku_s, a2]
  have e1 : kAddR σ p 1 0 = σ 1 0 + 1 := ku_s _ _ _ _
  have f1 : ∀ r, mAddR τ p 1 r = if r = σ 1 0 then p else τ 1 r := by intro r; rw [← a2]; simp [mAddR, ku]
  have f10 : ∀ r, kAddR σ p 10 r = if r = σ 1 0 then p else σ 10 r := by intro r; simp [kAddR, ku]
  have f11 : ∀ r, kAddR σ p 11 r = if r = σ 1 0 then kwr (if p = 0 then 0 else σ 11 (p - 1)) (σ 1 0) true else σ 11 r := by intro r; simp [kAddR, ku]
  refine ⟨⟨a1, by rw [e31, e1], a3, a4, a5⟩, b, d, fun r hr => ?_, o⟩
  rw [e1] at hr
  rw [f1, f10, f11]
  by_cases hrn : r = σ 1 0
  · rw [if_pos hrn, if_pos hrn, if_pos hrn]
    refine ⟨rfl, ?_⟩
    by_cases hp0 : p = 0
    · rw [if_pos hp0, if_pos hp0, hrn]
    · rw [if_neg hp0, if_neg hp0, f11, if_neg (by omega), hrn]
  · rw [if_neg hrn, if_neg hrn, if_neg hrn]
    have h9 := (hB.rg r (by omega)).2
    obtain ⟨q1, q2⟩ := pp r (by omega)
    refine ⟨q1, ?_⟩
    rw [f11, if_neg (show ¬ σ 10 r - 1 = σ 1 0 by omega)]
    exact q2
theorem kB_addR (hB : kB σ) {p : Nat} (hp : p ≤ σ 1 0) (hn : σ 1 0 < 6) : kB (kAddR σ p) := by
  have e1 : kAddR σ p 1 0 = σ 1 0 + 1 := ku_s _ _ _ _
  have f10 : ∀ r, kAddR σ p 10 r = if r = σ 1 0 then p else σ 10 r := by intro r; simp [kAddR, ku]
  have f11 : ∀ r, kAddR σ p 11 r = if r = σ 1 0 then kwr (if p = 0 then 0 else σ 11 (p - 1)) (σ 1 0) true else σ 11 r := by intro r; simp [kAddR, ku]
  have hrg := hB.rg
  obtain ⟨h0, h1, h2, h3, h4, h5, h6, h7, h8, h9, h10, h11⟩ := hB
  refine ⟨h0, by rw [e1]; omega, h2, h3, h4, h5, h6, fun r hr => ?_, h8, h9, h10, h11⟩
  rw [e1] at hr
  rw [f10, f11]
  by_cases hrn : r = σ 1 0
  · rw [if_pos hrn, if_pos hrn]
    refine ⟨kwr_lt _ (by omega) _ ?_ _, by omega⟩
    split
    · decide
    · exact (hrg (p - 1) (by omega)).1
  · rw [if_neg hrn, if_neg hrn]
    exact hrg r (by omega)
theorem mB_addR (hB : mB τ) {p : Nat} (hp : p ≤ τ 31 0) (hn : τ 31 0 < 6) : mB (mAddR τ p) := by
  have e31 : mAddR τ p 31 0 = τ 31 0 + 1 := ku_s _ _ _ _
  have f1 : ∀ r, mAddR τ p 1 r = if r = τ 31 0 then p else τ 1 r := by intro r; simp [mAddR, ku]
  obtain ⟨h0, h1, h2, h3, h4, h5, h6, h7, h8, h9, h10⟩ := hB
  refine ⟨h0, by rw [e31]; omega, h2, h3, h4, fun r hr => ?_, h6, h7, h8, h9, h10⟩
  rw [e31] at hr
  rw [f1]
  by_cases hrn : r = τ 31 0
  · rw [if_pos hrn]; omega
  · rw [if_neg hrn]; exact h5 r (by omega)
theorem kR_addC (h : kR σ τ) (hZ : kZ0 σ) {t1 t2 t3 t4 : Nat} : kR (kAddC σ t1 t2 t3 t4) (mAddC τ t1 t2 t3 t4) := by
  obtain ⟨⟨a1, a2, a3, a4, a5⟩, ⟨b1, b2', b3, b4, b5, b6, b7, b8, b9, b10, b11, b12, b13, b14⟩, d, p, o1, o2, o3⟩ := h
  have e32 : mAddC τ t1 t2 t3 t4 32 0 = σ 2 0 + 1 := by unfold mAddC; rw [ku_s, a3]
  have e2 : kAddC σ t1 t2 t3 t4 2 0 = σ 2 0 + 1 := ku_s _ _ _ _
  have f11 : ∀ q, mAddC τ t1 t2 t3 t4 11 q = if q = σ 2 0 then 0 else τ 11 q := by intro q; rw [← a3]; simp [mAddC, ku]
  have r6 : mAddC τ t1 t2 t3 t4 6 = kAddC σ t1 t2 t3 t4 20 := by funext q; have := congrFun b3 q; simp [mAddC, kAddC, ku, a3, this]
  have r7 : mAddC τ t1 t2 t3 t4 7 = kAddC σ t1 t2 t3 t4 21 := by funext q; have := congrFun b4 q; simp [mAddC, kAddC, ku, a3, this]
  have r8 : mAddC τ t1 t2 t3 t4 8 = kAddC σ t1 t2 t3 t4 22 := by funext q; have := congrFun b5 q; simp [mAddC, kAddC, ku, a3, this]
  have r9 : mAddC τ t1 t2 t3 t4 9 = kAddC σ t1 t2 t3 t4 23 := by funext q; have := congrFun b6 q; simp [mAddC, kAddC, ku, a3, this]
  refine ⟨⟨a1, a2, by rw [e32, e2], a4, a5⟩, ⟨b1, b2', r6, r7, r8, r9, b7, b8, b9, b10, b11, b12, b13, b14⟩, d, p, fun q hq => ?_, o2, o3⟩
  rw [e2] at hq
  rw [f11]
  show _ = σ 25 q
  by_cases hqn : q = σ 2 0
  · rw [if_pos hqn, hqn]
    exact (hZ.2.1 _ (Nat.le_refl _)).2.1.symm
  · rw [if_neg hqn]
    exact o1 q (by omega)
theorem kB_addC (hB : kB σ) (hZ : kZ0 σ) {t1 t2 t3 t4 : Nat} (h1a : 1 ≤ t1) (h1b : t1 ≤ 60) (h2b : t2 ≤ 1000) (h3b : t3 ≤ 3) (h4a : 1 ≤ t4) (h4b : t4 ≤ 6) (hn : σ 2 0 < 8) : kB (kAddC σ t1 t2 t3 t4) := by
  have e2 : kAddC σ t1 t2 t3 t4 2 0 = σ 2 0 + 1 := ku_s _ _ _ _
  have f20 : ∀ q, kAddC σ t1 t2 t3 t4 20 q = if q = σ 2 0 then t1 else σ 20 q := by intro q; simp [kAddC, ku]
  have f21 : ∀ q, kAddC σ t1 t2 t3 t4 21 q = if q = σ 2 0 then t2 else σ 21 q := by intro q; simp [kAddC, ku]
  have f22 : ∀ q, kAddC σ t1 t2 t3 t4 22 q = if q = σ 2 0 then t3 else σ 22 q := by intro q; simp [kAddC, ku]
  have f23 : ∀ q, kAddC σ t1 t2 t3 t4 23 q = if q = σ 2 0 then t4 else σ 23 q := by intro q; simp [kAddC, ku]
  obtain ⟨h0, h1, h2, h3, h4, h5, h6, h7, h8, h9, h10, h11⟩ := hB
  obtain ⟨-, z2, z3⟩ := hZ
  refine ⟨h0, h1, by rw [e2]; omega, h3, h4, h5, h6, h7, fun q hq => ?_, fun q r hq hr => ?_, h10, h11⟩
  · rw [e2] at hq
    show (1 ≤ kAddC σ t1 t2 t3 t4 20 q ∧ kAddC σ t1 t2 t3 t4 20 q ≤ 60) ∧ kAddC σ t1 t2 t3 t4 21 q ≤ 1000 ∧ kAddC σ t1 t2 t3 t4 22 q ≤ 3 ∧ (1 ≤ kAddC σ t1 t2 t3 t4 23 q ∧ kAddC σ t1 t2 t3 t4 23 q ≤ 6) ∧ σ 24 q ≤ 2 ∧ σ 30 q < 64 ∧ σ 25 q ≤ σ 4 0
    rw [f20, f21, f22, f23]
    by_cases hqn : q = σ 2 0
    · rw [if_pos hqn, if_pos hqn, if_pos hqn, if_pos hqn]
      obtain ⟨z24, z25, -, -, z30⟩ := z2 q (by omega)
      omega
    · rw [if_neg hqn, if_neg hqn, if_neg hqn, if_neg hqn]
      exact h8 q (by omega)
  · rw [e2] at hq
    show σ 31 (6 * q + r) ≤ 2 ∧ σ 32 (6 * q + r) ≤ 3 ∧ σ 33 (6 * q + r) ≤ 200000
    by_cases hqn : q = σ 2 0
    · obtain ⟨z31, z32, z33⟩ := z3 (6 * q + r) (by omega)
      omega
    · exact h9 q r (by omega) hr
theorem mB_addC (hB : mB τ) (hv : τ 10 (τ 32 0) = 0) {t1 t2 t3 t4 : Nat} (h1a : 1 ≤ t1) (h1b : t1 ≤ 60) (h2b : t2 ≤ 1000) (h3b : t3 ≤ 3) (h4a : 1 ≤ t4) (h4b : t4 ≤ 6) (hn : τ 32 0 < 8) : mB (mAddC τ t1 t2 t3 t4) := by
  have e32 : mAddC τ t1 t2 t3 t4 32 0 = τ 32 0 + 1 := ku_s _ _ _ _
  have f6 : ∀ q, mAddC τ t1 t2 t3 t4 6 q = if q = τ 32 0 then t1 else τ 6 q := by intro q; simp [mAddC, ku]
  have f7 : ∀ q, mAddC τ t1 t2 t3 t4 7 q = if q = τ 32 0 then t2 else τ 7 q := by intro q; simp [mAddC, ku]
  have f8 : ∀ q, mAddC τ t1 t2 t3 t4 8 q = if q = τ 32 0 then t3 else τ 8 q := by intro q; simp [mAddC, ku]
  have f9 : ∀ q, mAddC τ t1 t2 t3 t4 9 q = if q = τ 32 0 then t4 else τ 9 q := by intro q; simp [mAddC, ku]
  have f11 : ∀ q, mAddC τ t1 t2 t3 t4 11 q = if q = τ 32 0 then 0 else τ 11 q := by intro q; simp [mAddC, ku]
  obtain ⟨h0, h1, h2, h3, h4, h5, h6, h7, h8, h9, h10⟩ := hB
  refine ⟨h0, h1, by rw [e32]; omega, h3, h4, h5, h6, fun q hq => ?_, h8, h9, h10⟩
  rw [e32] at hq
  show (1 ≤ mAddC τ t1 t2 t3 t4 6 q ∧ mAddC τ t1 t2 t3 t4 6 q ≤ 60) ∧ mAddC τ t1 t2 t3 t4 7 q ≤ 1000 ∧ mAddC τ t1 t2 t3 t4 8 q ≤ 3 ∧ (1 ≤ mAddC τ t1 t2 t3 t4 9 q ∧ mAddC τ t1 t2 t3 t4 9 q ≤ 6) ∧ τ 10 q ≤ 2 ∧ mAddC τ t1 t2 t3 t4 11 q ≤ τ 34 0
  rw [f6, f7, f8, f9, f11]
  by_cases hqn : q = τ 32 0
  · rw [if_pos hqn, if_pos hqn, if_pos hqn, if_pos hqn, if_pos hqn, hqn, hv]
    omega
  · rw [if_neg hqn, if_neg hqn, if_neg hqn, if_neg hqn, if_neg hqn]
    exact h7 q (by omega)
theorem kR_down (h : kR σ τ) (hB : kB σ) {i r : Nat} {b : Bool} (hi : i < σ 2 0) (hr : r < 6) : kR (ku σ 30 i (kwr (σ 30 i) r b)) (ku (mT τ 0) 14 (6 * i + r) (if b then 1 else 0)) := by
  obtain ⟨a, f, d, p, o⟩ := h
  refine ⟨a, f, ⟨d.1, d.2.1, fun q s hs => ?_⟩, p, o⟩
  show ku (mT τ 0) 14 (6 * i + r) _ 14 (6 * q + s) = b2 (ku σ 30 i _ 30 q) s
  rw [ku_e, ku_e]
  by_cases hq : q = i
  · subst hq
    rw [if_pos rfl]
    unfold b2
    rw [kwr_bit r hr _ (hB.ck q hi).2.2.2.2.2.1 b s hs]
    by_cases hs2 : s = r
    · rw [if_pos (by omega), if_pos hs2]
    · rw [if_neg (by omega), if_neg hs2]
      exact d.2.2 q s hs
  · rw [if_neg (by omega), if_neg hq]
    exact d.2.2 q s hs
theorem kR_cut (h : kR σ τ) (hB : kB σ) {r : Nat} {b : Bool} (hr : r < 6) : kR (ku σ 14 0 (kwr (σ 14 0) r b)) (ku (mT τ 0) 2 r (if b then 1 else 0)) := by
  obtain ⟨a, f, d, p, o⟩ := h
  refine ⟨a, f, ⟨fun s hs => ?_, d.2.1, d.2.2⟩, p, o⟩
  show ku (mT τ 0) 2 r _ 2 s = b2 (ku σ 14 0 _ 14 0) s
  rw [ku_e, ku_s]
  unfold b2
  rw [kwr_bit r hr _ hB.cut b s hs]
  by_cases hs2 : s = r
  · rw [if_pos hs2, if_pos hs2]
  · rw [if_neg hs2, if_neg hs2]
    exact d.1 s hs
theorem kR_quo (h : kR σ τ) (i t : Nat) : kR (ku σ 23 i t) (ku (mT τ 0) 9 i t) := by
  obtain ⟨a, ⟨b1, b2', b3, b4, b5, b6, b7, b8, b9, b10, b11, b12, b13, b14⟩, d, p, o⟩ := h
  exact ⟨a, ⟨b1, b2', b3, b4, b5, ku_row b6, b7, b8, b9, b10, b11, b12, b13, b14⟩, d, p, o⟩
theorem kR_addW (h : kR σ τ) {i t1 t2 : Nat} (h2 : 1 ≤ t2) : kR (kAddW σ i t1 t2) (mAddW τ i t1 t2) := by
  obtain ⟨⟨a1, a2, a3, a4, a5⟩, ⟨b1, b2', b3, b4, b5, b6, b7, b8, b9, b10, b11, b12, b13, b14⟩, d, p, o1, o2, o3⟩ := h
  have e33 : mAddW τ i t1 t2 33 0 = σ 3 0 + 1 := by unfold mAddW; rw [ku_s, a4]
  have e3 : kAddW σ i t1 t2 3 0 = σ 3 0 + 1 := ku_s _ _ _ _
  have f20 : ∀ q, mAddW τ i t1 t2 20 q = if q = σ 3 0 then t1 + t2 else τ 20 q := by intro q; rw [← a4]; simp [mAddW, ku]
  have f41 : ∀ q, kAddW σ i t1 t2 41 q = if q = σ 3 0 then t1 else σ 41 q := by intro q; simp [kAddW, ku]
  have f42 : ∀ q, kAddW σ i t1 t2 42 q = if q = σ 3 0 then t1 + t2 - 1 else σ 42 q := by intro q; simp [kAddW, ku]
  have r18 : mAddW τ i t1 t2 18 = kAddW σ i t1 t2 40 := by funext q; have := congrFun b13 q; simp [mAddW, kAddW, ku, a4, this]
  have r19 : mAddW τ i t1 t2 19 = kAddW σ i t1 t2 41 := by funext q; have := congrFun b14 q; simp [mAddW, kAddW, ku, a4, this]
  refine ⟨⟨a1, a2, a3, by rw [e33, e3], a5⟩, ⟨b1, b2', b3, b4, b5, b6, b7, b8, b9, b10, b11, b12, r18, r19⟩, d, p, o1, fun q hq => ?_, o3⟩
  rw [e3] at hq
  rw [f20, f41, f42]
  by_cases hqn : q = σ 3 0
  · rw [if_pos hqn, if_pos hqn, if_pos hqn]; omega
  · rw [if_neg hqn, if_neg hqn, if_neg hqn]
    exact o2 q (by omega)
theorem kR_endW (h : kR σ τ) {i : Nat} (hi : i < σ 3 0) : kR (ku σ 42 i (min (σ 0 0) (σ 42 i))) (ku (mT τ 0) 20 i (max (min (τ 30 0 + 1) (τ 20 i)) (τ 19 i))) := by
  obtain ⟨a, b, d, p, o1, o2, o3⟩ := h
  refine ⟨a, b, d, p, o1, fun q hq => ?_, o3⟩
  have h9 := o2 i hi
  have e19 : τ 19 i = σ 41 i := congrFun b.2.2.2.2.2.2.2.2.2.2.2.2.2 i
  show ku (mT τ 0) 20 i _ 20 q = max (ku σ 42 i _ 42 q + 1) (σ 41 q)
  rw [ku_e, ku_e]
  by_cases hqi : q = i
  · rw [if_pos hqi, if_pos hqi, h9, e19, a.1, hqi]
    omega
  · rw [if_neg hqi, if_neg hqi]
    exact o2 q hq
end REL5
