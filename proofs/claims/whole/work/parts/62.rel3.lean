/-! ===== verdicts, alarms, counts: one check at a time, or one step at a time ===== -/
theorem ku_self (σ : kS) (f i : Nat) : ku σ f i (σ f i) = σ := by
  funext x y
  simp only [ku]
  by_cases h : x = f ∧ y = i
  · rw [if_pos h, h.1, h.2]
  · rw [if_neg h]
theorem kTrm_congr {σ σ' : kS} (h31 : σ' 31 = σ 31) (h11 : σ' 11 = σ 11) (h15 : σ' 15 = σ 15) (c : Nat) : ∀ n, kTrm σ' c n = kTrm σ c n := by
  intro n
  induction n with
  | zero => rfl
  | succ n ih =>
    show kwr (kTrm σ' c n) n (kTrb σ' c n) = kwr (kTrm σ c n) n (kTrb σ c n)
    unfold kTrb
    rw [ih, h31, h11, h15]
theorem kVerd_congr {σ σ' : kS} (h23 : σ' 23 = σ 23) (h31 : σ' 31 = σ 31) (h11 : σ' 11 = σ 11) (h15 : σ' 15 = σ 15) (h1 : σ' 1 = σ 1) (c : Nat) : kVerd σ' c = kVerd σ c := by
  unfold kVerd
  rw [kTrm_congr h31 h11 h15, h23, h31, h1]
theorem kFr_row {L : List Nat} {σ τ : kS} (h : kFr L σ τ) {g : Nat} (hg : g ∉ L) : τ g = σ g := funext fun j => h g j hg
theorem kMnt_congr {σ σ' : kS} (h40 : σ' 40 = σ 40) (h41 : σ' 41 = σ 41) (h42 : σ' 42 = σ 42) (h0 : σ' 0 = σ 0) (c : Nat) : ∀ n, kMnt σ' c n = kMnt σ c n := by
  intro n
  induction n with
  | zero => rfl
  | succ n ih =>
    show (kMnt σ' c n || _) = (kMnt σ c n || _)
    rw [ih, h40, h41, h42, h0]
theorem kAl_ku (σ : kS) {f i j : Nat} (v : Nat) (hf : f ∉ [0, 3, 4, 25, 40, 41, 42, 50, 51, 52]) (h24 : f = 24 → j ≠ i) : kAl (ku σ f j v) i = ku (kAl σ i) f j v := by
  simp only [List.mem_cons, List.not_mem_nil, or_false, not_or] at hf
  obtain ⟨a0, a3, a4, a25, a40, a41, a42, a50, a51, a52⟩ := hf
  have e24 : ku σ f j v 24 i = σ 24 i := by
    by_cases h : f = 24
    · subst h; exact ku_i _ _ _ _ (Ne.symm (h24 rfl))
    · exact ku_f _ _ _ _ (Ne.symm h)
  have e0 : ku σ f j v 0 0 = σ 0 0 := ku_f _ _ _ _ (Ne.symm a0)
  have e25 : ku σ f j v 25 i = σ 25 i := ku_f _ _ _ _ (Ne.symm a25)
  have e3 : ku σ f j v 3 0 = σ 3 0 := ku_f _ _ _ _ (Ne.symm a3)
  have e4 : ku σ f j v 4 0 = σ 4 0 := ku_f _ _ _ _ (Ne.symm a4)
  have em : kMnt (ku σ f j v) i (σ 3 0) = kMnt σ i (σ 3 0) := kMnt_congr (ku_oth (Ne.symm a40)) (ku_oth (Ne.symm a41)) (ku_oth (Ne.symm a42)) (ku_oth (Ne.symm a0)) i _
  unfold kAl
  rw [e24, e25, e3, em]
  split
  · unfold kRaise
    rw [e4, e0, ku_comm σ v i (Or.inl a50), ku_comm _ v (σ 0 0) (Or.inl a51), ku_comm _ v 0 (Or.inl a52), ku_comm _ v (σ 4 0 + 1) (f := f) (g := 25) (Or.inl a25), ku_comm _ v (σ 4 0 + 1) (f := f) (g := 4) (Or.inl a4)]
  · split
    · unfold kClose
      rw [e25, e0, ku_comm σ v (σ 0 0 + 1) (Or.inl a52), ku_comm _ v 0 (Or.inl a25)]
    · rfl
theorem kCt1_ku (σ : kS) {f i j : Nat} (v : Nat) (hf : f ≠ 27) (h24 : f = 24 → j ≠ i) : kCt1 (ku σ f j v) i = ku (kCt1 σ i) f j v := by
  have e24 : ku σ f j v 24 i = σ 24 i := by
    by_cases h : f = 24
    · subst h; exact ku_i _ _ _ _ (Ne.symm (h24 rfl))
    · exact ku_f _ _ _ _ (Ne.symm h)
  have e27 : ku σ f j v 27 i = σ 27 i := ku_f _ _ _ _ (Ne.symm hf)
  unfold kCt1
  rw [e24, e27]
  split
  · exact ku_comm σ v _ (Or.inl hf)
  · rfl
theorem kCt2_ku (σ : kS) {f i j : Nat} (v : Nat) (hf : f ≠ 26) (h24 : f = 24 → j ≠ i) : kCt2 (ku σ f j v) i = ku (kCt2 σ i) f j v := by
  have e24 : ku σ f j v 24 i = σ 24 i := by
    by_cases h : f = 24
    · subst h; exact ku_i _ _ _ _ (Ne.symm (h24 rfl))
    · exact ku_f _ _ _ _ (Ne.symm h)
  have e26 : ku σ f j v 26 i = σ 26 i := ku_f _ _ _ _ (Ne.symm hf)
  unfold kCt2
  rw [e24, e26]
  split
  · exact ku_comm σ v _ (Or.inl hf)
  · rfl
theorem kCt1_fr (σ : kS) (c : Nat) : kFr [27] σ (kCt1 σ c) := by
  intro g j hg
  unfold kCt1
  split
  · exact ku_f _ _ _ _ (by simpa using hg)
  · rfl
theorem kCt2_fr (σ : kS) (c : Nat) : kFr [26] σ (kCt2 σ c) := by
  intro g j hg
  unfold kCt2
  split
  · exact ku_f _ _ _ _ (by simpa using hg)
  · rfl
theorem kAl_ct1 (σ : kS) (i j : Nat) : kAl (kCt1 σ i) j = kCt1 (kAl σ j) i := by
  have e24 := kAl_fr σ j 24 i (by decide)
  have e27 := kAl_fr σ j 27 i (by decide)
  unfold kCt1
  rw [e24, e27]
  split
  · exact kAl_ku σ _ (by decide) (fun h => absurd h (by decide))
  · rfl
theorem kAl_ct2 (σ : kS) (i j : Nat) : kAl (kCt2 σ i) j = kCt2 (kAl σ j) i := by
  have e24 := kAl_fr σ j 24 i (by decide)
  have e26 := kAl_fr σ j 26 i (by decide)
  unfold kCt2
  rw [e24, e26]
  split
  · exact kAl_ku σ _ (by decide) (fun h => absurd h (by decide))
  · rfl
def kC1 (σ : kS) (c : Nat) : kS := kCt2 (kCt1 (kAl (ku σ 24 c (kVerd σ c)) c) c) c
theorem kC_fuse (n : Nat) (σ : kS) : kFor (fun c ρ => kC1 ρ c) n σ = kFor (fun c ρ => kCt2 (kCt1 ρ c) c) n (kFor (fun c ρ => kAl ρ c) n (kFor (fun c ρ => ku ρ 24 c (kVerd ρ c)) n σ)) := by
  refine kFor_fuse (f := fun c ρ => ku ρ 24 c (kVerd ρ c)) (g := fun c ρ => kAl ρ c) (h := fun c ρ => kCt2 (kCt1 ρ c) c) ?_ ?_ ?_ n σ
  · intro i j hij ρ
    have hv : kVerd (kAl ρ i) j = kVerd ρ j := kVerd_congr (kFr_row (kAl_fr ρ i) (by decide)) (kFr_row (kAl_fr ρ i) (by decide)) (kFr_row (kAl_fr ρ i) (by decide)) (kFr_row (kAl_fr ρ i) (by decide)) (kFr_row (kAl_fr ρ i) (by decide)) j
    show ku (kAl ρ i) 24 j (kVerd (kAl ρ i) j) = kAl (ku ρ 24 j (kVerd ρ j)) i
    rw [hv, kAl_ku ρ _ (by decide) (fun _ => by omega)]
  · intro i j hij ρ
    have r1 : ∀ g, g ∉ [26, 27] → kCt2 (kCt1 ρ i) i g = ρ g := fun g hg => (kFr_row (kCt2_fr (kCt1 ρ i) i) (fun h => hg (by simp at h ⊢; exact Or.inl h))).trans (kFr_row (kCt1_fr ρ i) (fun h => hg (by simp at h ⊢; exact Or.inr h)))
    have hv : kVerd (kCt2 (kCt1 ρ i) i) j = kVerd ρ j := kVerd_congr (r1 23 (by decide)) (r1 31 (by decide)) (r1 11 (by decide)) (r1 15 (by decide)) (r1 1 (by decide)) j
    show ku (kCt2 (kCt1 ρ i) i) 24 j (kVerd (kCt2 (kCt1 ρ i) i) j) = kCt2 (kCt1 (ku ρ 24 j (kVerd ρ j)) i) i
    rw [hv, kCt1_ku ρ _ (by decide) (fun _ => by omega), kCt2_ku _ _ (by decide) (fun _ => by omega)]
  · intro i j hij ρ
    show kAl (kCt2 (kCt1 ρ i) i) j = kCt2 (kCt1 (kAl ρ j) i) i
    rw [kAl_ct2, kAl_ct1]
theorem kJC_row (σ : kS) : ∀ n g, g ≠ 24 → kFor (fun c ρ => ku ρ 24 c (kVerd ρ c)) n σ g = σ g := by
  intro n
  induction n with
  | zero => exact fun _ _ => rfl
  | succ n ih => exact fun g hg => (ku_oth hg).trans (ih g hg)
theorem kAls_row (σ : kS) : ∀ n g, g ∉ kLa → kFor (fun c ρ => kAl ρ c) n σ g = σ g := by
  intro n
  induction n with
  | zero => exact fun _ _ => rfl
  | succ n ih => exact fun g hg => (kFr_row (kAl_fr _ n) hg).trans (ih g hg)
theorem kC_all (σ : kS) : kCts (kAls (kJC σ)) = kFor (fun c ρ => kC1 ρ c) (σ 2 0) σ := by
  rw [kC_fuse]
  unfold kCts kAls kJC
  rw [kAls_row _ _ 2 (by decide), kJC_row σ _ 2 (by decide)]
