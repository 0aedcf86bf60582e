/-! ===== the law's loop, its invariant: both states one, within bounds, the room used so far ===== -/
def kCe (n : Nat) (σ : kS) : Nat := 40 + n + kTc (σ 4 0) + 2 * σ 1 0 + 5 * σ 2 0 + 2 * σ 3 0
def kSl (n : Nat) (σ : kS) : Nat := 130000 + 6 * n + kTs (σ 4 0) + 40 * σ 1 0 + 70 * σ 2 0 + 40 * σ 3 0
def kNv (n : Nat) (σ τ : kS) : Prop := kR σ τ ∧ kB σ ∧ mB τ ∧ kZ0 σ ∧ (∃ M, kPh n M σ) ∧ kCb σ ∧ σ 0 0 ≤ 200 * n
theorem kbud {n : Nat} {σ τ : kS} (h : kNv n σ τ) (hn : n ≤ 512) : kCe n σ ≤ room_1.cells ∧ kSl n σ ≤ room_1.slots := by
  obtain ⟨-, hB, -, -, ⟨M, hP⟩, -, -⟩ := h
  have h4 := kPh_max hP hn hB.nC
  have h1 := hB.nR
  have h2 := hB.nC
  have h3 := hB.nW
  have c1 := kTc_le (σ 4 0)
  have c2 := kTs_le (σ 4 0)
  have c3 := kcap_up (σ 4 0)
  refine ⟨?_, ?_⟩
  · show 40 + n + kTc (σ 4 0) + 2 * σ 1 0 + 5 * σ 2 0 + 2 * σ 3 0 ≤ 601024
    omega
  · show 130000 + 6 * n + kTs (σ 4 0) + 40 * σ 1 0 + 70 * σ 2 0 + 40 * σ 3 0 ≤ 7293034
    omega
abbrev kCo (n mc ms : Nat) (σ σ' : kS) : Prop := kCe n σ + mc ≤ kCe (n + 1) σ' ∧ kSl n σ + ms ≤ kSl (n + 1) σ'
theorem kCo_b {n mc ms : Nat} {σ σ' τ' : kS} (h : kCo n mc ms σ σ') (hv : kNv (n + 1) σ' τ') (hn : n < 512) : kCe n σ + mc ≤ room_1.cells ∧ kSl n σ + ms ≤ room_1.slots :=
  ⟨Nat.le_trans h.1 (kbud hv hn).1, Nat.le_trans h.2 (kbud hv hn).2⟩
theorem kCo_same {n : Nat} {σ σ' : kS} (h1 : σ' 1 0 = σ 1 0) (h2 : σ' 2 0 = σ 2 0) (h3 : σ' 3 0 = σ 3 0) (h4 : σ' 4 0 = σ 4 0) : kCo n 0 0 σ σ' := by
  unfold kCo kCe kSl
  rw [h1, h2, h3, h4]
  omega
theorem kCo_rd (n : Nat) (σ : kS) : kCo n 0 0 σ σ := kCo_same rfl rfl rfl rfl
theorem kCo_x (n : Nat) (σ : kS) : kCo n 1 6 σ σ := by
  unfold kCo kCe kSl
  omega
theorem kgc_le (n : Nat) : kgc n ≤ 1 := by unfold kgc; split <;> omega
theorem kgs_le (n : Nat) : kgs n ≤ n + 1 + (n + 1) / 2 + 10 := by
  have := kcap_up (n + 1)
  unfold kgs
  split <;> omega
theorem kCo_addR {n p : Nat} {σ : kS} (hn : σ 1 0 < 6) : kCo n (1 + kgc (σ 1 0)) (4 + kgs (σ 1 0)) σ (kAddR σ p) := by
  have e1 : kAddR σ p 1 0 = σ 1 0 + 1 := by simp [kAddR, ku]
  have e2 : kAddR σ p 2 0 = σ 2 0 := by simp [kAddR, ku]
  have e3 : kAddR σ p 3 0 = σ 3 0 := by simp [kAddR, ku]
  have e4 : kAddR σ p 4 0 = σ 4 0 := by simp [kAddR, ku]
  have a := kgc_le (σ 1 0)
  have b := kgs_le (σ 1 0)
  unfold kCo kCe kSl
  rw [e1, e2, e3, e4]
  omega
theorem kCo_addC {n t1 t2 t3 t4 : Nat} {σ : kS} (hn : σ 2 0 < 8) : kCo n (4 + kgc (σ 2 0)) (31 + kgs (σ 2 0)) σ (kAddC σ t1 t2 t3 t4) := by
  have e1 : kAddC σ t1 t2 t3 t4 1 0 = σ 1 0 := by simp [kAddC, ku]
  have e2 : kAddC σ t1 t2 t3 t4 2 0 = σ 2 0 + 1 := by simp [kAddC, ku]
  have e3 : kAddC σ t1 t2 t3 t4 3 0 = σ 3 0 := by simp [kAddC, ku]
  have e4 : kAddC σ t1 t2 t3 t4 4 0 = σ 4 0 := by simp [kAddC, ku]
  have a := kgc_le (σ 2 0)
  have b := kgs_le (σ 2 0)
  unfold kCo kCe kSl
  rw [e1, e2, e3, e4]
  omega
theorem kCo_addW {n i t1 t2 : Nat} {σ : kS} (hn : σ 3 0 < 12) : kCo n (1 + kgc (σ 3 0)) (3 + kgs (σ 3 0)) σ (kAddW σ i t1 t2) := by
  have e1 : kAddW σ i t1 t2 1 0 = σ 1 0 := by simp [kAddW, ku]
  have e2 : kAddW σ i t1 t2 2 0 = σ 2 0 := by simp [kAddW, ku]
  have e3 : kAddW σ i t1 t2 3 0 = σ 3 0 + 1 := by simp [kAddW, ku]
  have e4 : kAddW σ i t1 t2 4 0 = σ 4 0 := by simp [kAddW, ku]
  have a := kgc_le (σ 3 0)
  have b := kgs_le (σ 3 0)
  unfold kCo kCe kSl
  rw [e1, e2, e3, e4]
  omega
theorem kCo_pass {n t : Nat} {σ : kS} (h1 : kPass t σ 1 0 = σ 1 0) (h2 : kPass t σ 2 0 = σ 2 0) (h3 : kPass t σ 3 0 = σ 3 0) (h4 : σ 4 0 ≤ kPass t σ 4 0) : kCo n (kTc (kPass t σ 4 0) - kTc (σ 4 0)) (kTs (kPass t σ 4 0) - kTs (σ 4 0)) σ (kPass t σ) := by
  have a := kTc_mono h4
  have b := kTs_mono h4
  unfold kCo kCe kSl
  rw [h1, h2, h3]
  omega
theorem kCb_rows {σ σ' : kS} (h : kCb σ) (h26 : σ' 26 = σ 26) (h27 : σ' 27 = σ 27) (h0 : σ' 0 0 = σ 0 0) : kCb σ' := by
  intro c
  rw [h26, h27, h0]
  exact h c
theorem kNv_t {n : Nat} {σ τ : kS} (h : kNv n σ τ) (v : Nat) : kNv (n + 1) σ (mT τ v) := by
  obtain ⟨hR, hB, hmB, hZ, ⟨M, hP⟩, hC, ht⟩ := h
  exact ⟨kR_t hR v, hB, mB_t hmB v, hZ, ⟨M, kPh_up hP⟩, hC, by omega⟩
theorem kNv_w {n : Nat} {σ τ σ' τ' : kS} (h : kNv n σ τ) (hR : kR σ' τ') (hB : kB σ') (hmB : mB τ') (hZ : kZ0 σ') (h2 : σ' 2 = σ 2) (h4 : σ' 4 = σ 4) (h24 : σ' 24 = σ 24) (h25 : σ' 25 = σ 25) (h26 : σ' 26 = σ 26) (h27 : σ' 27 = σ 27) (h0 : σ' 0 0 = σ 0 0) : kNv (n + 1) σ' τ' := by
  obtain ⟨-, -, -, -, ⟨M, hP⟩, hC, ht⟩ := h
  exact ⟨hR, hB, hmB, hZ, ⟨M, kPh_touch hP (kInv_rows hP.1 h2 h4 h24 h25)⟩, kCb_rows hC h26 h27 h0, by rw [h0]; omega⟩
theorem kNv_addC {n : Nat} {σ τ : kS} (h : kNv n σ τ) {t1 t2 t3 t4 : Nat} (h1a : 1 ≤ t1) (h1b : t1 ≤ 60) (h2b : t2 ≤ 1000) (h3b : t3 ≤ 3) (h4a : 1 ≤ t4) (h4b : t4 ≤ 6) (hn : σ 2 0 < 8) : kNv (n + 1) (kAddC σ t1 t2 t3 t4) (mAddC τ t1 t2 t3 t4) := by
  obtain ⟨hR, hB, hmB, hZ, ⟨M, hP⟩, hC, ht⟩ := h
  have e32 : τ 32 0 = σ 2 0 := hR.1.2.2.1
  have e10 : τ 10 = σ 24 := hR.2.1.2.2.2.2.2.2.1
  refine ⟨kR_addC hR hZ, kB_addC hB hZ h1a h1b h2b h3b h4a h4b hn, mB_addC hmB (by rw [e32, e10]; exact (hZ.2.1 _ (Nat.le_refl _)).1) h1a h1b h2b h3b h4a h4b (by rw [e32]; exact hn), kZ_addC hZ _ _ _ _, ⟨M, kPh_touch hP (kInv_addC hP.1 hZ _ _ _ _)⟩, kCb_rows hC ?_ ?_ ?_, ?_⟩
  · funext j; simp [kAddC, ku]
  · funext j; simp [kAddC, ku]
  · simp [kAddC, ku]
  · have : kAddC σ t1 t2 t3 t4 0 0 = σ 0 0 := by simp [kAddC, ku]
    omega
theorem kNv_pass {n t : Nat} {σ τ : kS} (h : kNv n σ τ) (hn : n < 512) (h1 : 1 ≤ t) (h2 : t ≤ 200) : σ 0 0 + t ≤ 102400 ∧ kPass t σ 4 0 ≤ 51000 ∧ mPass t (mT τ 0) 34 0 ≤ 51000 ∧ mPass t (mT τ 0) 34 0 = kPass t σ 4 0 ∧ kNv (n + 1) (kPass t σ) (mPass t (mT τ 0)) := by
  obtain ⟨hR, hB, hmB, hZ, ⟨M, hP⟩, hC, ht⟩ := h
  have hm : σ 0 0 + t ≤ 102400 := by omega
  obtain ⟨⟨M', hP'⟩, h4⟩ := kPh_pass hP hB hn h1 hm
  have h4' : kPass t σ 4 0 ≤ 51000 := by omega
  have hR' := kR_pass (kR_t hR 0) hB t hm h4'
  have e34 : mPass t (mT τ 0) 34 0 = kPass t σ 4 0 := hR'.1.2.2.2.2
  have e30 : mT τ 0 30 0 = σ 0 0 := (kR_t hR 0).1.1
  obtain ⟨b1, b2, -⟩ := kPass_in hB t hm h4'
  have c1 := mPass_in (mB_t hmB 0) t (by rw [e30]; exact hm) (by rw [e34]; exact h4')
  refine ⟨hm, h4', by rw [e34]; exact h4', e34, hR', b1, c1.1, kZ_pass hZ hB t hm h4', ⟨M', hP'⟩, kCb_pass hC hB t hm h4', ?_⟩
  rw [b2]
  omega
theorem kidx (x : Int32) {N : Nat} (hN : N < 2 ^ 31) : (∃ j, j < N ∧ x = nI j) ∨ (x < 0 ∨ nI N ≤ x) := by
  by_cases h : x < 0
  · exact Or.inr (Or.inl h)
  · obtain ⟨j, hj, rfl⟩ := nI_of h
    rcases Nat.lt_or_ge j N with h1 | h1
    · exact Or.inl ⟨j, h1, rfl⟩
    · exact Or.inr (Or.inr (nI_le h1 hj))
theorem krng0 (x M : Int32) {n : Nat} (hM : M.toInt = n) : (x < 0 ∨ ¬ x ≤ M) ∨ (¬ x < 0 ∧ x ≤ M ∧ ∃ t, t ≤ n ∧ x = nI t) := by
  by_cases h : x < 0
  · exact Or.inl (Or.inl h)
  · by_cases h2 : x ≤ M
    · exact Or.inr ⟨h, h2, nI_of2 hM h h2⟩
    · exact Or.inl (Or.inr h2)
theorem krng1 (x M : Int32) {n : Nat} (hM : M.toInt = n) : (x < 1 ∨ ¬ x ≤ M) ∨ (¬ x < 1 ∧ x ≤ M ∧ ∃ t, 1 ≤ t ∧ t ≤ n ∧ x = nI t) := by
  by_cases h : x < 1
  · exact Or.inl (Or.inl h)
  · by_cases h2 : x ≤ M
    · refine Or.inr ⟨h, h2, ?_⟩
      have h0 : ¬ x < 0 := fun h9 => h (Int32.lt_trans h9 (by decide))
      obtain ⟨t, ht, e⟩ := nI_of2 hM h0 h2
      refine ⟨t, ?_, ht, e⟩
      rcases Nat.eq_zero_or_pos t with h9 | h9
      · subst h9
        exact absurd (by rw [e]; decide) h
      · exact h9
    · exact Or.inl (Or.inr h2)
theorem kb2 (m r : Nat) : nI (b2 m r) = bI (m.testBit r) := by
  unfold b2
  cases m.testBit r <;> rfl
theorem kbz (x : Int32) : ∃ bb : Bool, (x = 0 ∧ bI bb = 0) ∨ (¬ x = 0 ∧ bI bb = 1) := by
  by_cases h : x = 0
  · exact ⟨false, Or.inl ⟨h, rfl⟩⟩
  · exact ⟨true, Or.inr ⟨h, rfl⟩⟩
theorem kbn (b : Bool) : bI b = nI (if b then 1 else 0) := by cases b <;> rfl
