/-! ===== bounds and zeros that the calls keep ===== -/
section KROW
variable {σ τ : kS}
theorem ku_oth {f i v g : Nat} (h : g ≠ f) : ku σ f i v g = σ g := funext fun j => ku_f _ _ _ _ h
theorem kFr_row {L : List Nat} {σ τ : kS} (h : kFr L σ τ) {g : Nat} (hg : g ∉ L) : τ g = σ g := funext fun j => h g j hg
theorem kCt1_fr (σ : kS) (c : Nat) : kFr [27] σ (kCt1 σ c) := by
  intro g j hg
  unfold kCt1
  split
  · exact ku_f _ _ _ _ (by simpa using hg)
  · rfl
theorem kCt2_fr (σ : kS) (c : Nat) : kFr [26] σ (kCt2 σ c) := by
  intro g j hg
  unfold kCt2
  split
  · exact ku_f _ _ _ _ (by simpa using hg)
  · rfl
theorem kJC_row (σ : kS) : ∀ n g, g ≠ 24 → kFor (fun c ρ => ku ρ 24 c (kVerd ρ c)) n σ g = σ g := by
  intro n
  induction n with
  | zero => exact fun _ _ => rfl
  | succ n ih => exact fun g hg => (ku_oth hg).trans (ih g hg)
theorem kAls_row (σ : kS) : ∀ n g, g ∉ kLa → kFor (fun c ρ => kAl ρ c) n σ g = σ g := by
  intro n
  induction n with
  | zero => exact fun _ _ => rfl
  | succ n ih => exact fun g hg => (kFr_row (kAl_fr _ n) hg).trans (ih g hg)
theorem kCts_row (σ : kS) : ∀ n g, g ≠ 26 → g ≠ 27 → kFor (fun c ρ => kCt2 (kCt1 ρ c) c) n σ g = σ g := by
  intro n
  induction n with
  | zero => exact fun _ _ _ => rfl
  | succ n ih => exact fun g h1 h2 => ((kFr_row (kCt2_fr _ n) (by simpa using h1)).trans (kFr_row (kCt1_fr _ n) (by simpa using h2))).trans (ih g h1 h2)
theorem kPass_s (t : Nat) (σ : kS) : kPass (t + 1) σ = kPass t (kPass1 σ) := by
  induction t with
  | zero => rfl
  | succ t ih =>
    show kPass1 (kPass (t + 1) σ) = kPass1 (kPass t (kPass1 σ))
    rw [ih]
end KROW
section KEEP
variable {σ τ : kS}
theorem kB_addR (hB : kB σ) {p : Nat} (hp : p ≤ σ 1 0) (hn : σ 1 0 < 6) : kB (kAddR σ p) := by
  have e1 : kAddR σ p 1 0 = σ 1 0 + 1 := ku_s _ _ _ _
  have f10 : ∀ r, kAddR σ p 10 r = if r = σ 1 0 then p else σ 10 r := by intro r; simp [kAddR, ku]
  have f11 : ∀ r, kAddR σ p 11 r = if r = σ 1 0 then kwr (if p = 0 then 0 else σ 11 (p - 1)) (σ 1 0) true else σ 11 r := by intro r; simp [kAddR, ku]
  have hrg := hB.rg
  obtain ⟨h0, h1, h2, h3, h4, h5, h6, h7, h8, h9, h10, h11⟩ := hB
  refine ⟨h0, by rw [e1]; omega, h2, h3, h4, h5, h6, fun r hr => ?_, h8, h9, h10, h11⟩
  rw [e1] at hr
  rw [f10, f11]
  by_cases hrn : r = σ 1 0
  · rw [if_pos hrn, if_pos hrn]
    refine ⟨kwr_lt _ (by omega) _ ?_ _, by omega⟩
    split
    · decide
    · exact (hrg (p - 1) (by omega)).1
  · rw [if_neg hrn, if_neg hrn]
    exact hrg r (by omega)
theorem kB_addC (hB : kB σ) (hZ : kZ0 σ) {t1 t2 t3 t4 : Nat} (h1a : 1 ≤ t1) (h1b : t1 ≤ 60) (h2b : t2 ≤ 1000) (h3b : t3 ≤ 3) (h4a : 1 ≤ t4) (h4b : t4 ≤ 6) (hn : σ 2 0 < 8) : kB (kAddC σ t1 t2 t3 t4) := by
  have e2 : kAddC σ t1 t2 t3 t4 2 0 = σ 2 0 + 1 := ku_s _ _ _ _
  have f20 : ∀ q, kAddC σ t1 t2 t3 t4 20 q = if q = σ 2 0 then t1 else σ 20 q := by intro q; simp [kAddC, ku]
  have f21 : ∀ q, kAddC σ t1 t2 t3 t4 21 q = if q = σ 2 0 then t2 else σ 21 q := by intro q; simp [kAddC, ku]
  have f22 : ∀ q, kAddC σ t1 t2 t3 t4 22 q = if q = σ 2 0 then t3 else σ 22 q := by intro q; simp [kAddC, ku]
  have f23 : ∀ q, kAddC σ t1 t2 t3 t4 23 q = if q = σ 2 0 then t4 else σ 23 q := by intro q; simp [kAddC, ku]
  obtain ⟨h0, h1, h2, h3, h4, h5, h6, h7, h8, h9, h10, h11⟩ := hB
  obtain ⟨-, z2, z3⟩ := hZ
  refine ⟨h0, h1, by rw [e2]; omega, h3, h4, h5, h6, h7, fun q hq => ?_, fun q r hq hr => ?_, h10, h11⟩
  · rw [e2] at hq
    show (1 ≤ kAddC σ t1 t2 t3 t4 20 q ∧ kAddC σ t1 t2 t3 t4 20 q ≤ 60) ∧ kAddC σ t1 t2 t3 t4 21 q ≤ 1000 ∧ kAddC σ t1 t2 t3 t4 22 q ≤ 3 ∧ (1 ≤ kAddC σ t1 t2 t3 t4 23 q ∧ kAddC σ t1 t2 t3 t4 23 q ≤ 6) ∧ σ 24 q ≤ 2 ∧ σ 30 q < 64 ∧ σ 25 q ≤ σ 4 0
    rw [f20, f21, f22, f23]
    by_cases hqn : q = σ 2 0
    · rw [if_pos hqn, if_pos hqn, if_pos hqn, if_pos hqn]
      obtain ⟨z24, z25, -, -, z30⟩ := z2 q (by omega)
      omega
    · rw [if_neg hqn, if_neg hqn, if_neg hqn, if_neg hqn]
      exact h8 q (by omega)
  · rw [e2] at hq
    show σ 31 (6 * q + r) ≤ 2 ∧ σ 32 (6 * q + r) ≤ 3 ∧ σ 33 (6 * q + r) ≤ 200000
    by_cases hqn : q = σ 2 0
    · obtain ⟨z31, z32, z33⟩ := z3 (6 * q + r) (by omega)
      omega
    · exact h9 q r (by omega) hr
theorem kB_addW (hB : kB σ) {i t1 t2 : Nat} (hi : i < σ 2 0) (h1 : t1 ≤ 100000) (h2 : t2 ≤ 10000) (hn : σ 3 0 < 12) : kB (kAddW σ i t1 t2) := by
  have e3 : kAddW σ i t1 t2 3 0 = σ 3 0 + 1 := ku_s _ _ _ _
  have f40 : ∀ q, kAddW σ i t1 t2 40 q = if q = σ 3 0 then i else σ 40 q := by intro q; simp [kAddW, ku]
  have f41 : ∀ q, kAddW σ i t1 t2 41 q = if q = σ 3 0 then t1 else σ 41 q := by intro q; simp [kAddW, ku]
  have f42 : ∀ q, kAddW σ i t1 t2 42 q = if q = σ 3 0 then t1 + t2 - 1 else σ 42 q := by intro q; simp [kAddW, ku]
  obtain ⟨h0, h1', h2', h3, h4, h5, h6, h7, h8, h9, h10, h11⟩ := hB
  refine ⟨h0, h1', h2', by rw [e3]; omega, h4, h5, h6, h7, h8, h9, fun q hq => ?_, h11⟩
  rw [e3] at hq
  rw [f40, f41, f42]
  by_cases hqn : q = σ 3 0
  · rw [if_pos hqn, if_pos hqn, if_pos hqn]; omega
  · rw [if_neg hqn, if_neg hqn, if_neg hqn]
    exact h10 q (by omega)
end KEEP
theorem kB_start : kB k00 := by
  refine ⟨by decide, by decide, by decide, by decide, by decide, by decide, by decide, fun r h => absurd h (Nat.not_lt_zero _), fun c h => absurd h (Nat.not_lt_zero _), fun c r h => absurd h (Nat.not_lt_zero _), fun w h => absurd h (Nat.not_lt_zero _), fun j h => absurd h (Nat.not_lt_zero _)⟩
theorem kZ_start : kZ0 k00 := ⟨fun _ _ => ⟨rfl, rfl⟩, fun _ _ => ⟨rfl, rfl, rfl, rfl, rfl⟩, fun _ _ => ⟨rfl, rfl, rfl⟩⟩
/-! ===== what is not born stays zero ===== -/
def kZr (R C : Nat) (τ : kS) : Prop := (∀ r, R ≤ r → τ 12 r = 0 ∧ τ 13 r = 0) ∧ (∀ c, C ≤ c → τ 24 c = 0 ∧ τ 25 c = 0 ∧ τ 26 c = 0 ∧ τ 27 c = 0 ∧ τ 30 c = 0) ∧ ∀ j, 6 * C ≤ j → τ 31 j = 0 ∧ τ 32 j = 0 ∧ τ 33 j = 0
theorem kZr_ku {R C : Nat} {τ : kS} (h : kZr R C τ) {f i : Nat} (v : Nat) (h1 : f = 12 ∨ f = 13 → i < R) (h2 : f = 24 ∨ f = 25 ∨ f = 26 ∨ f = 27 ∨ f = 30 → i < C) (h3 : f = 31 ∨ f = 32 ∨ f = 33 → i < 6 * C) : kZr R C (ku τ f i v) := by
  have key : ∀ g j, (g = f → j ≠ i) → τ g j = 0 → ku τ f i v g j = 0 := by
    intro g j hne h0
    show (if g = f ∧ j = i then v else τ g j) = 0
    rw [if_neg (fun q => hne q.1 q.2)]
    exact h0
  obtain ⟨a, b, c⟩ := h
  refine ⟨fun r hr => ?_, fun q hq => ?_, fun j hj => ?_⟩
  · obtain ⟨a1, a2⟩ := a r hr
    exact ⟨key 12 r (fun e => by have := h1 (by omega); omega) a1, key 13 r (fun e => by have := h1 (by omega); omega) a2⟩
  · obtain ⟨b1, b2', b3, b4, b5⟩ := b q hq
    exact ⟨key 24 q (fun e => by have := h2 (by omega); omega) b1, key 25 q (fun e => by have := h2 (by omega); omega) b2', key 26 q (fun e => by have := h2 (by omega); omega) b3, key 27 q (fun e => by have := h2 (by omega); omega) b4, key 30 q (fun e => by have := h2 (by omega); omega) b5⟩
  · obtain ⟨c1, c2, c3⟩ := c j hj
    exact ⟨key 31 j (fun e => by have := h3 (by omega); omega) c1, key 32 j (fun e => by have := h3 (by omega); omega) c2, key 33 j (fun e => by have := h3 (by omega); omega) c3⟩
theorem kZr_o {R C : Nat} {τ : kS} (h : kZr R C τ) {f : Nat} (i v : Nat) (hf : f ∉ [12, 13, 24, 25, 26, 27, 30, 31, 32, 33]) : kZr R C (ku τ f i v) := by
  simp only [List.mem_cons, List.not_mem_nil, or_false, not_or] at hf
  exact kZr_ku h v (fun q => by omega) (fun q => by omega) (fun q => by omega)
section ZERO
variable {R C : Nat}
theorem kZr_prb {τ : kS} (h : kZr R C τ) {c r : Nat} (hc : c < C) (hr : r < R) (hr6 : r < 6) : kZr R C (kPrb τ c r) := by
  have a12 : ∀ {ρ : kS} (v : Nat), kZr R C ρ → kZr R C (ku ρ 12 r v) := fun v h => kZr_ku h v (fun _ => hr) (fun q => by omega) (fun q => by omega)
  have a13 : ∀ {ρ : kS} (v : Nat), kZr R C ρ → kZr R C (ku ρ 13 r v) := fun v h => kZr_ku h v (fun _ => hr) (fun q => by omega) (fun q => by omega)
  have a31 : ∀ {ρ : kS} (v : Nat), kZr R C ρ → kZr R C (ku ρ 31 (6 * c + r) v) := fun v h => kZr_ku h v (fun q => by omega) (fun q => by omega) (fun _ => by omega)
  have a32 : ∀ {ρ : kS} (v : Nat), kZr R C ρ → kZr R C (ku ρ 32 (6 * c + r) v) := fun v h => kZr_ku h v (fun q => by omega) (fun q => by omega) (fun _ => by omega)
  have a33 : ∀ {ρ : kS} (v : Nat), kZr R C ρ → kZr R C (ku ρ 33 (6 * c + r) v) := fun v h => kZr_ku h v (fun q => by omega) (fun q => by omega) (fun _ => by omega)
  unfold kPrb kMake kTakeF kTakeS
  split
  · split
    · split
      · exact a32 _ (a13 _ (a12 _ h))
      · split
        · exact a31 _ (a32 _ (a13 _ (a12 _ h)))
        · exact a33 _ (a32 _ (a32 _ (a13 _ (a12 _ h))))
    · exact a31 _ (a32 _ (a12 _ h))
  · exact h
theorem kZr_al {τ : kS} (h : kZr R C τ) {c : Nat} (hc : c < C) : kZr R C (kAl τ c) := by
  have a25 : ∀ {ρ : kS} (v : Nat), kZr R C ρ → kZr R C (ku ρ 25 c v) := fun v h => kZr_ku h v (fun q => by omega) (fun _ => hc) (fun q => by omega)
  unfold kAl kRaise kClose
  split
  · exact kZr_o (a25 _ (kZr_o (kZr_o (kZr_o h _ _ (by decide)) _ _ (by decide)) _ _ (by decide))) _ _ (by decide)
  · split
    · exact a25 _ (kZr_o h _ _ (by decide))
    · exact h
theorem kZr_ct {τ : kS} (h : kZr R C τ) {c : Nat} (hc : c < C) : kZr R C (kCt2 (kCt1 τ c) c) := by
  have h1 : kZr R C (kCt1 τ c) := by
    unfold kCt1
    split
    · exact kZr_ku h _ (fun q => by omega) (fun _ => hc) (fun q => by omega)
    · exact h
  unfold kCt2
  split
  · exact kZr_ku h1 _ (fun q => by omega) (fun _ => hc) (fun q => by omega)
  · exact h1
end ZERO
theorem kZ_pass1 {σ : kS} (h : kZ0 σ) (hB : kB σ) (hm : σ 0 0 < 102400) (hn : kPass1 σ 4 0 ≤ 51000) : kZ0 (kPass1 σ) := by
  obtain ⟨-, -, f1, f2, -, -, -, -⟩ := kPass1_in hB hm hn
  have hR := hB.nR
  have z0 : kZr (σ 1 0) (σ 2 0) (kMin σ) := kZr_o (show kZr (σ 1 0) (σ 2 0) σ from h) _ _ (by decide)
  have z1 : kZr (σ 1 0) (σ 2 0) (kPrbs (kMin σ)) :=
    kFor_inv (P := kZr (σ 1 0) (σ 2 0)) (n := σ 2 0) z0 (fun c τ hc hτ => kFor_inv (P := kZr (σ 1 0) (σ 2 0)) (n := σ 1 0) hτ (fun r ρ hr hρ => kZr_prb hρ hc hr (by omega)) _ (Nat.le_refl _)) _ (Nat.le_refl _)
  have z2 : kZr (σ 1 0) (σ 2 0) (kJR (kPrbs (kMin σ))) :=
    kFor_inv (P := kZr (σ 1 0) (σ 2 0)) (n := kPrbs (kMin σ) 1 0) z1 (fun r τ _ hτ => kZr_o hτ _ _ (by decide)) _ (Nat.le_refl _)
  obtain ⟨p1, p2, p3, p4⟩ := kPass1_pre hB hm
  have e2 : kJR (kPrbs (kMin σ)) 2 0 = σ 2 0 := by rw [p3.2 2 0 (by decide), p2.2 2 0 (by decide), p1.2 2 0 (by decide)]
  have e2' : kJC (kJR (kPrbs (kMin σ))) 2 0 = σ 2 0 := (p4.2 2 0 (by decide)).trans e2
  have z3 : kZr (σ 1 0) (σ 2 0) (kJC (kJR (kPrbs (kMin σ)))) :=
    kFor_inv (P := kZr (σ 1 0) (σ 2 0)) (n := kJR (kPrbs (kMin σ)) 2 0) z2 (fun c τ hc hτ => kZr_ku hτ _ (fun q => by omega) (fun _ => by omega) (fun q => by omega)) _ (Nat.le_refl _)
  have z4 : kZr (σ 1 0) (σ 2 0) (kAls (kJC (kJR (kPrbs (kMin σ))))) :=
    kFor_inv (P := kZr (σ 1 0) (σ 2 0)) (n := kJC (kJR (kPrbs (kMin σ))) 2 0) z3 (fun c τ hc hτ => kZr_al hτ (by omega)) _ (Nat.le_refl _)
  have e5 : kAls (kJC (kJR (kPrbs (kMin σ)))) 2 0 = σ 2 0 := (congrFun (kAls_row _ _ 2 (by decide)) 0).trans e2'
  have z5 : kZr (σ 1 0) (σ 2 0) (kPass1 σ) :=
    kFor_inv (P := kZr (σ 1 0) (σ 2 0)) (n := kAls (kJC (kJR (kPrbs (kMin σ)))) 2 0) z4 (fun c τ hc hτ => kZr_ct hτ (by omega)) _ (Nat.le_refl _)
  unfold kZ0
  rw [f1, f2]
  exact z5
theorem kZ_pass {σ : kS} (h : kZ0 σ) (hB : kB σ) : ∀ t, σ 0 0 + t ≤ 102400 → kPass t σ 4 0 ≤ 51000 → kZ0 (kPass t σ) := by
  intro t
  induction t with
  | zero => exact fun _ _ => h
  | succ t ih =>
    intro hm hn
    have hmo : kPass t σ 4 0 ≤ 51000 := Nat.le_trans (kPass_mono (Nat.le_succ t)) hn
    have hin := kPass_in hB t (by omega) hmo
    exact kZ_pass1 (ih (by omega) hmo) hin.1 (by omega) hn
theorem kZ_addR {σ : kS} (h : kZ0 σ) (p : Nat) : kZ0 (kAddR σ p) := by
  have e1 : kAddR σ p 1 0 = σ 1 0 + 1 := ku_s _ _ _ _
  obtain ⟨a, b, c⟩ := h
  exact ⟨fun r hr => a r (by rw [e1] at hr; omega), b, c⟩
theorem kZ_addC {σ : kS} (h : kZ0 σ) (t1 t2 t3 t4 : Nat) : kZ0 (kAddC σ t1 t2 t3 t4) := by
  have e2 : kAddC σ t1 t2 t3 t4 2 0 = σ 2 0 + 1 := ku_s _ _ _ _
  obtain ⟨a, b, c⟩ := h
  exact ⟨a, fun r hr => b r (by rw [e2] at hr; omega), fun r hr => c r (by rw [e2] at hr; omega)⟩
theorem kZ_addW {σ : kS} (h : kZ0 σ) (i t1 t2 : Nat) : kZ0 (kAddW σ i t1 t2) := h
theorem kZ_o {σ : kS} (h : kZ0 σ) {f : Nat} (i v : Nat) (hf : f ∉ [12, 13, 24, 25, 26, 27, 30, 31, 32, 33]) (h1 : f ≠ 1) (h2 : f ≠ 2) : kZ0 (ku σ f i v) := by
  have z : kZr (σ 1 0) (σ 2 0) (ku σ f i v) := kZr_o (show kZr (σ 1 0) (σ 2 0) σ from h) i v hf
  unfold kZ0
  rw [ku_f σ (f := f) (g := 1) i 0 v (Ne.symm h1), ku_f σ (f := f) (g := 2) i 0 v (Ne.symm h2)]
  exact z
theorem kZ_down {σ : kS} (h : kZ0 σ) {i : Nat} (v : Nat) (hi : i < σ 2 0) : kZ0 (ku σ 30 i v) :=
  kZr_ku (R := σ 1 0) (C := σ 2 0) (show kZr (σ 1 0) (σ 2 0) σ from h) v (fun q => by omega) (fun _ => hi) (fun q => by omega)

