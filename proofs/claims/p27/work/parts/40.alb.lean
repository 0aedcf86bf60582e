/-! ===== the bounds under raising and closing ===== -/
theorem kB_raise {σ : kS} {c : Nat} (h : kB σ) (hc : c < 8) (hn : σ 4 0 < 51000) : kB (kRaise σ c) := by
  obtain ⟨h0, h1, h2, h3, h4, h5, h6, h7, h8, h9, h10, h11⟩ := h
  have e : ∀ g, g ≠ 50 → g ≠ 51 → g ≠ 52 → g ≠ 25 → g ≠ 4 → ∀ j, kRaise σ c g j = σ g j := by
    intro g a1 a2 a3 a4 a5 j
    simp only [kRaise]
    rw [ku_f _ _ _ _ a5, ku_f _ _ _ _ a4, ku_f _ _ _ _ a3, ku_f _ _ _ _ a2, ku_f _ _ _ _ a1]
  have e4 : kRaise σ c 4 0 = σ 4 0 + 1 := by simp [kRaise, ku]
  have e25 : ∀ j, kRaise σ c 25 j = if j = c then σ 4 0 + 1 else σ 25 j := by intro j; simp [kRaise, ku]
  have e50 : ∀ j, kRaise σ c 50 j = if j = σ 4 0 then c else σ 50 j := by intro j; simp [kRaise, ku]
  have e51 : ∀ j, kRaise σ c 51 j = if j = σ 4 0 then σ 0 0 else σ 51 j := by intro j; simp [kRaise, ku]
  have e52 : ∀ j, kRaise σ c 52 j = if j = σ 4 0 then 0 else σ 52 j := by intro j; simp [kRaise, ku]
  have E : ∀ g j, (g ≠ 50 ∧ g ≠ 51 ∧ g ≠ 52 ∧ g ≠ 25 ∧ g ≠ 4) → kRaise σ c g j = σ g j := fun g j hg => e g hg.1 hg.2.1 hg.2.2.1 hg.2.2.2.1 hg.2.2.2.2 j
  refine ⟨?_, ?_, ?_, ?_, ?_, ?_, ?_, ?_, ?_, ?_, ?_, ?_⟩
  · rw [E 0 0 (by decide)]; exact h0
  · rw [E 1 0 (by decide)]; exact h1
  · rw [E 2 0 (by decide)]; exact h2
  · rw [E 3 0 (by decide)]; exact h3
  · rw [e4]; omega
  · rw [E 14 0 (by decide)]; exact h5
  · rw [E 15 0 (by decide)]; exact h6
  · intro r hr
    rw [E 1 0 (by decide)] at hr
    rw [E 11 r (by decide), E 10 r (by decide)]; exact h7 r hr
  · intro c' hc'
    rw [E 2 0 (by decide)] at hc'
    have h9' := h8 c' hc'
    rw [E 20 _ (by decide), E 21 _ (by decide), E 22 _ (by decide), E 23 _ (by decide), E 24 _ (by decide), E 30 _ (by decide), e4, e25]
    refine ⟨h9'.1, h9'.2.1, h9'.2.2.1, h9'.2.2.2.1, h9'.2.2.2.2.1, h9'.2.2.2.2.2.1, ?_⟩
    have := h9'.2.2.2.2.2.2
    split <;> omega
  · intro c' r hc' hr
    rw [E 2 0 (by decide)] at hc'
    rw [E 31 _ (by decide), E 32 _ (by decide), E 33 _ (by decide)]; exact h9 c' r hc' hr
  · intro w hw
    rw [E 3 0 (by decide)] at hw
    rw [E 40 _ (by decide), E 41 _ (by decide), E 42 _ (by decide)]; exact h10 w hw
  · intro j hj
    rw [e4] at hj
    rw [e50, e51, e52]
    by_cases hjn : j = σ 4 0
    · rw [if_pos hjn, if_pos hjn, if_pos hjn]; omega
    · rw [if_neg hjn, if_neg hjn, if_neg hjn]; exact h11 j (by omega)
abbrev kLa : List Nat := [25, 52, 50, 51, 4]
theorem kAl_up (σ : kS) (c : Nat) : σ 4 0 ≤ kAl σ c 4 0 := by
  unfold kAl
  split
  · have e4 : kRaise σ c 4 0 = σ 4 0 + 1 := by simp [kRaise, ku]
    omega
  · split
    · have e4 : kClose σ c 4 0 = σ 4 0 := by simp [kClose, ku]
      omega
    · exact Nat.le_refl _
theorem kAl_fr (σ : kS) (c : Nat) : kFr kLa σ (kAl σ c) := by
  intro g j hg
  simp only [List.mem_cons, List.not_mem_nil, or_false, not_or] at hg
  obtain ⟨h1, h2, h3, h4, h5⟩ := hg
  unfold kAl kRaise kClose
  split
  · rw [ku_f _ _ _ _ h5, ku_f _ _ _ _ h1, ku_f _ _ _ _ h2, ku_f _ _ _ _ h4, ku_f _ _ _ _ h3]
  · split
    · rw [ku_f _ _ _ _ h1, ku_f _ _ _ _ h2]
    · rfl
theorem kAl_in {σ τ : kS} (h : kPin kLa σ τ) {c : Nat} (hc : c < σ 2 0) (hn : kAl τ c 4 0 ≤ 51000) : kPin kLa σ (kAl τ c) := by
  refine ⟨?_, fun g j hg => (kAl_fr τ c g j hg).trans (h.2 g j hg)⟩
  have hB := h.1
  have hc' : c < τ 2 0 := by rw [h.2 2 0 (by decide)]; exact hc
  have hk := hB.ck c hc'
  have hm := hB.min
  unfold kAl at hn ⊢
  split
  · rename_i h1
    rw [if_pos h1] at hn
    have e4 : kRaise τ c 4 0 = τ 4 0 + 1 := by simp [kRaise, ku]
    exact kB_raise hB (hB.c8 hc') (by omega)
  · split
    · exact kB_p25 (kB_p52 hB (by omega)) (Nat.zero_le _)
    · exact hB
theorem kAls_mono {σ : kS} {k n : Nat} (h : k ≤ n) : kFor (fun c τ => kAl τ c) k σ 4 0 ≤ kFor (fun c τ => kAl τ c) n σ 4 0 := by
  induction n with
  | zero => rw [Nat.le_zero.mp h]; exact Nat.le_refl _
  | succ n ih =>
    rcases Nat.lt_or_ge k (n + 1) with h1 | h1
    · exact Nat.le_trans (ih (by omega)) (kAl_up _ _)
    · rw [show k = n + 1 by omega]; exact Nat.le_refl _
theorem kAls_in {σ : kS} (h : kB σ) (hn : kAls σ 4 0 ≤ 51000) : kPin kLa σ (kAls σ) := by
  suffices K : ∀ k, k ≤ σ 2 0 → kPin kLa σ (kFor (fun c τ => kAl τ c) k σ) from K _ (Nat.le_refl _)
  intro k
  induction k with
  | zero => exact fun _ => kPin.rf h
  | succ k ih => exact fun hk => kAl_in (ih (by omega)) hk (Nat.le_trans (kAls_mono (k := k + 1) hk) hn)
section KNULL
variable {p : Program} {l : Launch} {e : Env} {R : Room} {s : State} {m : MethodId} {args : Array Value} {below : List Frame} {meth : Method} {c : Code} {H : Heap} {locs : List Loc} {cells slots : Nat} {Q : State → Prop} {pc : Nat} {ls : Array Slot} {rest : List Value} {cc : ByteArray}
theorem kr_ifnonnull (hx : p.tables.exec = Jvm.exec) (hb : c.code = cc) {x : Option Nat} {off : Int} {tgt : Nat} (hdg : decode cc pc = .ok (.ifnonnull off, 3)) (ht : (pc : Int) + off = (tgt : Int)) (kt : ∀ q, x = some q → W p l e R s m args below meth c H locs cells slots Q (F0 m tgt ls rest)) (kf : x = none → W p l e R s m args below meth c H locs cells slots Q (F0 m (pc + 3) ls rest)) : W p l e R s m args below meth c H locs cells slots Q (F0 m pc ls (va_rf x :: rest)) := by
  cases x with
  | none => exact lv_ifnonnullN hx hb hdg (kf rfl)
  | some q => exact lv_ifnonnull hx hb hdg ht (kt q rfl)
theorem kr_ifnull (hx : p.tables.exec = Jvm.exec) (hb : c.code = cc) {x : Option Nat} {off : Int} {tgt : Nat} (hdg : decode cc pc = .ok (.ifnull off, 3)) (ht : (pc : Int) + off = (tgt : Int)) (kt : x = none → W p l e R s m args below meth c H locs cells slots Q (F0 m tgt ls rest)) (kf : ∀ q, x = some q → W p l e R s m args below meth c H locs cells slots Q (F0 m (pc + 3) ls rest)) : W p l e R s m args below meth c H locs cells slots Q (F0 m pc ls (va_rf x :: rest)) := by
  cases x with
  | none => exact lv_ifnullN hx hb hdg ht (kt rfl)
  | some q => exact lv_ifnull hx hb hdg (kf q rfl)
end KNULL
theorem kop_none {ad : Nat → Nat → Nat} {v : Nat} : kop ad v = none ↔ v = 0 := by
  cases v with
  | zero => exact ⟨fun _ => rfl, fun _ => rfl⟩
  | succ v => exact ⟨fun h => (by cases h), fun h => absurd h (by omega)⟩
theorem kop_some {ad : Nat → Nat → Nat} {v : Nat} (h : v ≠ 0) : kop ad v = some (ad 9 (v - 1)) := by
  cases v with
  | zero => exact absurd rfl h
  | succ v => rfl
