/-! ===== the reference's world: one object, 22 rows; its state is a function too: row, place, value ===== -/
/- rows 1 .. 22 as the fields stand; 30 minute, 31 regions, 32 checks, 33 windows, 34 alarms, 35 thrown (at 0); 1, 11 and 22 hold one more than the number -/
def kMC (ε : kEnv) (bd : Nat → Nat) (τ : kS) (k : Nat) : va_E := match k with
  | 0 => .inr (6, [.int (nI (τ 30 0)), .int (nI (τ 31 0)), .ref (bd 1), .ref (bd 2), .ref (bd 3), .ref (bd 4), .ref (bd 5), .int (nI (τ 32 0)), .ref (bd 6), .ref (bd 7), .ref (bd 8), .ref (bd 9), .ref (bd 10), .ref (bd 11), .ref (bd 12), .ref (bd 13), .ref (bd 14), .ref (bd 15), .ref (bd 16), .ref (bd 17), .int (nI (τ 33 0)), .ref (bd 18), .ref (bd 19), .ref (bd 20), .int (nI (τ 34 0)), .ref (bd 21), .ref (bd 22), .int (nI (τ 35 0))])
  | 1 => kI ε 6 (fun j => mI (τ 1 j))
  | 2 => kZ ε 6 (fun j => nI (τ 2 j))
  | 3 => kZ ε 6 (fun j => nI (τ 3 j))
  | 4 => kI ε 6 (fun j => nI (τ 4 j))
  | 5 => kI ε 6 (fun j => nI (τ 5 j))
  | 6 => kI ε 8 (fun j => nI (τ 6 j))
  | 7 => kI ε 8 (fun j => nI (τ 7 j))
  | 8 => kI ε 8 (fun j => nI (τ 8 j))
  | 9 => kI ε 8 (fun j => nI (τ 9 j))
  | 10 => kI ε 8 (fun j => nI (τ 10 j))
  | 11 => kI ε 8 (fun j => mI (τ 11 j))
  | 12 => kI ε 8 (fun j => nI (τ 12 j))
  | 13 => kI ε 8 (fun j => nI (τ 13 j))
  | 14 => kZ ε 48 (fun j => nI (τ 14 j))
  | 15 => kI ε 48 (fun j => nI (τ 15 j))
  | 16 => kI ε 48 (fun j => nI (τ 16 j))
  | 17 => kI ε 48 (fun j => nI (τ 17 j))
  | 18 => kI ε 12 (fun j => nI (τ 18 j))
  | 19 => kI ε 12 (fun j => nI (τ 19 j))
  | 20 => kI ε 12 (fun j => nI (τ 20 j))
  | 21 => kI ε 60000 (fun j => nI (τ 21 j))
  | _ => kI ε 60000 (fun j => mI (τ 22 j))
def kM (ε : kEnv) (A : Nat → Prop) (bd : Nat → Nat) (τ : kS) (H : Heap) : Prop := (∀ k, k < 23 → kat ε (bd k) (kMC ε bd τ k) H ∧ A (bd k)) ∧ ∀ k k', k < 23 → k' < 23 → bd k = bd k' → k = k'
theorem kM.lv {ε : kEnv} {A : Nat → Prop} {bd : Nat → Nat} {τ : kS} {H : Heap} (h : kM ε A bd τ H) (k : Nat) (hk : k < 23) : kat ε (bd k) (kMC ε bd τ k) H := (h.1 k hk).1
theorem kM.keep {ε : kEnv} {A : Nat → Prop} {bd : Nat → Nat} {τ : kS} {H H1 : Heap} (h : kM ε A bd τ H) (hq : ∀ k, k < 23 → H1[bd k]? = H[bd k]?) : kM ε A bd τ H1 :=
  ⟨fun k hk => ⟨va_at.kept (h.1 k hk).1 (hq k hk), (h.1 k hk).2⟩, h.2⟩
theorem kM.put {ε : kEnv} {A : Nat → Prop} {bd : Nat → Nat} {τ τ' : kS} {H H1 : Heap} (h : kM ε A bd τ H) (k0 : Nat) (h0 : k0 < 23) (hU : kU (bd k0) H H1) (h1 : kat ε (bd k0) (kMC ε bd τ' k0) H1) (hc : ∀ k, k < 23 → k ≠ k0 → kMC ε bd τ' k = kMC ε bd τ k) : kM ε A bd τ' H1 := by
  refine ⟨fun k hk => ⟨?_, (h.1 k hk).2⟩, h.2⟩
  by_cases hkk : k = k0
  · subst hkk; exact h1
  · rw [hc k hk hkk]
    exact hU.at (h.1 k hk).1 (fun he => hkk (h.2 k k0 hk h0 he))
theorem kM_fr {ε : kEnv} {bd : Nat → Nat} {τ τ' : kS} (k : Nat) (hk : k < 23) (h0 : k = 0 → ∀ g, 30 ≤ g → τ' g 0 = τ g 0) (h1 : k ≠ 0 → ∀ j, τ' k j = τ k j) : kMC ε bd τ' k = kMC ε bd τ k := by
  match k, hk, h0, h1 with
  | 0, _, h0, _ => have h := h0 rfl; simp only [kMC, h 30 (by decide), h 31 (by decide), h 32 (by decide), h 33 (by decide), h 34 (by decide), h 35 (by decide)]
  | 1, _, _, h1 => have h := h1 (by decide); simp only [kMC, h]
  | 2, _, _, h1 => have h := h1 (by decide); simp only [kMC, h]
  | 3, _, _, h1 => have h := h1 (by decide); simp only [kMC, h]
  | 4, _, _, h1 => have h := h1 (by decide); simp only [kMC, h]
  | 5, _, _, h1 => have h := h1 (by decide); simp only [kMC, h]
  | 6, _, _, h1 => have h := h1 (by decide); simp only [kMC, h]
  | 7, _, _, h1 => have h := h1 (by decide); simp only [kMC, h]
  | 8, _, _, h1 => have h := h1 (by decide); simp only [kMC, h]
  | 9, _, _, h1 => have h := h1 (by decide); simp only [kMC, h]
  | 10, _, _, h1 => have h := h1 (by decide); simp only [kMC, h]
  | 11, _, _, h1 => have h := h1 (by decide); simp only [kMC, h]
  | 12, _, _, h1 => have h := h1 (by decide); simp only [kMC, h]
  | 13, _, _, h1 => have h := h1 (by decide); simp only [kMC, h]
  | 14, _, _, h1 => have h := h1 (by decide); simp only [kMC, h]
  | 15, _, _, h1 => have h := h1 (by decide); simp only [kMC, h]
  | 16, _, _, h1 => have h := h1 (by decide); simp only [kMC, h]
  | 17, _, _, h1 => have h := h1 (by decide); simp only [kMC, h]
  | 18, _, _, h1 => have h := h1 (by decide); simp only [kMC, h]
  | 19, _, _, h1 => have h := h1 (by decide); simp only [kMC, h]
  | 20, _, _, h1 => have h := h1 (by decide); simp only [kMC, h]
  | 21, _, _, h1 => have h := h1 (by decide); simp only [kMC, h]
  | 22, _, _, h1 => have h := h1 (by decide); simp only [kMC, h]
  | k + 23, hk, _, _ => exact absurd hk (by omega)
theorem km_p1 {ε : kEnv} {A : Nat → Prop} {bd : Nat → Nat} {τ : kS} {H H1 : Heap} {j v : Nat} (h : kM ε A bd τ H) (hU : kU (bd 1) H H1) (ho : kat ε (bd 1) (kI ε 6 (upd (fun q => mI (τ 1 q)) j (mI v))) H1) : kM ε A bd (ku τ 1 j v) H1 := by
  refine h.put 1 (by decide) hU ?_ (fun k hk hne => kM_fr k hk (fun _ g hg => ku_f _ _ _ _ (by omega)) (fun _ q => ku_f _ _ _ _ hne))
  have e : (fun q => mI (ku τ 1 j v 1 q)) = upd (fun q => mI (τ 1 q)) j (mI v) := by
    funext q
    unfold upd
    rw [ku_e]
    split <;> rfl
  show kat ε (bd 1) (kI ε 6 (fun q => mI (ku τ 1 j v 1 q))) H1
  rw [e]
  exact ho
theorem km_p2 {ε : kEnv} {A : Nat → Prop} {bd : Nat → Nat} {τ : kS} {H H1 : Heap} {j v : Nat} (h : kM ε A bd τ H) (hU : kU (bd 2) H H1) (ho : kat ε (bd 2) (kZ ε 6 (upd (fun q => nI (τ 2 q)) j (nI v))) H1) : kM ε A bd (ku τ 2 j v) H1 := by
  refine h.put 2 (by decide) hU ?_ (fun k hk hne => kM_fr k hk (fun _ g hg => ku_f _ _ _ _ (by omega)) (fun _ q => ku_f _ _ _ _ hne))
  have e : (fun q => nI (ku τ 2 j v 2 q)) = upd (fun q => nI (τ 2 q)) j (nI v) := by
    funext q
    unfold upd
    rw [ku_e]
    split <;> rfl
  show kat ε (bd 2) (kZ ε 6 (fun q => nI (ku τ 2 j v 2 q))) H1
  rw [e]
  exact ho
theorem km_p3 {ε : kEnv} {A : Nat → Prop} {bd : Nat → Nat} {τ : kS} {H H1 : Heap} {j v : Nat} (h : kM ε A bd τ H) (hU : kU (bd 3) H H1) (ho : kat ε (bd 3) (kZ ε 6 (upd (fun q => nI (τ 3 q)) j (nI v))) H1) : kM ε A bd (ku τ 3 j v) H1 := by
  refine h.put 3 (by decide) hU ?_ (fun k hk hne => kM_fr k hk (fun _ g hg => ku_f _ _ _ _ (by omega)) (fun _ q => ku_f _ _ _ _ hne))
  have e : (fun q => nI (ku τ 3 j v 3 q)) = upd (fun q => nI (τ 3 q)) j (nI v) := by
    funext q
    unfold upd
    rw [ku_e]
    split <;> rfl
  show kat ε (bd 3) (kZ ε 6 (fun q => nI (ku τ 3 j v 3 q))) H1
  rw [e]
  exact ho
theorem km_p4 {ε : kEnv} {A : Nat → Prop} {bd : Nat → Nat} {τ : kS} {H H1 : Heap} {j v : Nat} (h : kM ε A bd τ H) (hU : kU (bd 4) H H1) (ho : kat ε (bd 4) (kI ε 6 (upd (fun q => nI (τ 4 q)) j (nI v))) H1) : kM ε A bd (ku τ 4 j v) H1 := by
  refine h.put 4 (by decide) hU ?_ (fun k hk hne => kM_fr k hk (fun _ g hg => ku_f _ _ _ _ (by omega)) (fun _ q => ku_f _ _ _ _ hne))
  have e : (fun q => nI (ku τ 4 j v 4 q)) = upd (fun q => nI (τ 4 q)) j (nI v) := by
    funext q
    unfold upd
    rw [ku_e]
    split <;> rfl
  show kat ε (bd 4) (kI ε 6 (fun q => nI (ku τ 4 j v 4 q))) H1
  rw [e]
  exact ho
theorem km_p5 {ε : kEnv} {A : Nat → Prop} {bd : Nat → Nat} {τ : kS} {H H1 : Heap} {j v : Nat} (h : kM ε A bd τ H) (hU : kU (bd 5) H H1) (ho : kat ε (bd 5) (kI ε 6 (upd (fun q => nI (τ 5 q)) j (nI v))) H1) : kM ε A bd (ku τ 5 j v) H1 := by
  refine h.put 5 (by decide) hU ?_ (fun k hk hne => kM_fr k hk (fun _ g hg => ku_f _ _ _ _ (by omega)) (fun _ q => ku_f _ _ _ _ hne))
  have e : (fun q => nI (ku τ 5 j v 5 q)) = upd (fun q => nI (τ 5 q)) j (nI v) := by
    funext q
    unfold upd
    rw [ku_e]
    split <;> rfl
  show kat ε (bd 5) (kI ε 6 (fun q => nI (ku τ 5 j v 5 q))) H1
  rw [e]
  exact ho
theorem km_p6 {ε : kEnv} {A : Nat → Prop} {bd : Nat → Nat} {τ : kS} {H H1 : Heap} {j v : Nat} (h : kM ε A bd τ H) (hU : kU (bd 6) H H1) (ho : kat ε (bd 6) (kI ε 8 (upd (fun q => nI (τ 6 q)) j (nI v))) H1) : kM ε A bd (ku τ 6 j v) H1 := by
  refine h.put 6 (by decide) hU ?_ (fun k hk hne => kM_fr k hk (fun _ g hg => ku_f _ _ _ _ (by omega)) (fun _ q => ku_f _ _ _ _ hne))
  have e : (fun q => nI (ku τ 6 j v 6 q)) = upd (fun q => nI (τ 6 q)) j (nI v) := by
    funext q
    unfold upd
    rw [ku_e]
    split <;> rfl
  show kat ε (bd 6) (kI ε 8 (fun q => nI (ku τ 6 j v 6 q))) H1
  rw [e]
  exact ho
theorem km_p7 {ε : kEnv} {A : Nat → Prop} {bd : Nat → Nat} {τ : kS} {H H1 : Heap} {j v : Nat} (h : kM ε A bd τ H) (hU : kU (bd 7) H H1) (ho : kat ε (bd 7) (kI ε 8 (upd (fun q => nI (τ 7 q)) j (nI v))) H1) : kM ε A bd (ku τ 7 j v) H1 := by
  refine h.put 7 (by decide) hU ?_ (fun k hk hne => kM_fr k hk (fun _ g hg => ku_f _ _ _ _ (by omega)) (fun _ q => ku_f _ _ _ _ hne))
  have e : (fun q => nI (ku τ 7 j v 7 q)) = upd (fun q => nI (τ 7 q)) j (nI v) := by
    funext q
    unfold upd
    rw [ku_e]
    split <;> rfl
  show kat ε (bd 7) (kI ε 8 (fun q => nI (ku τ 7 j v 7 q))) H1
  rw [e]
  exact ho
theorem km_p8 {ε : kEnv} {A : Nat → Prop} {bd : Nat → Nat} {τ : kS} {H H1 : Heap} {j v : Nat} (h : kM ε A bd τ H) (hU : kU (bd 8) H H1) (ho : kat ε (bd 8) (kI ε 8 (upd (fun q => nI (τ 8 q)) j (nI v))) H1) : kM ε A bd (ku τ 8 j v) H1 := by
  refine h.put 8 (by decide) hU ?_ (fun k hk hne => kM_fr k hk (fun _ g hg => ku_f _ _ _ _ (by omega)) (fun _ q => ku_f _ _ _ _ hne))
  have e : (fun q => nI (ku τ 8 j v 8 q)) = upd (fun q => nI (τ 8 q)) j (nI v) := by
    funext q
    unfold upd
    rw [ku_e]
    split <;> rfl
  show kat ε (bd 8) (kI ε 8 (fun q => nI (ku τ 8 j v 8 q))) H1
  rw [e]
  exact ho
theorem km_p9 {ε : kEnv} {A : Nat → Prop} {bd : Nat → Nat} {τ : kS} {H H1 : Heap} {j v : Nat} (h : kM ε A bd τ H) (hU : kU (bd 9) H H1) (ho : kat ε (bd 9) (kI ε 8 (upd (fun q => nI (τ 9 q)) j (nI v))) H1) : kM ε A bd (ku τ 9 j v) H1 := by
  refine h.put 9 (by decide) hU ?_ (fun k hk hne => kM_fr k hk (fun _ g hg => ku_f _ _ _ _ (by omega)) (fun _ q => ku_f _ _ _ _ hne))
  have e : (fun q => nI (ku τ 9 j v 9 q)) = upd (fun q => nI (τ 9 q)) j (nI v) := by
    funext q
    unfold upd
    rw [ku_e]
    split <;> rfl
  show kat ε (bd 9) (kI ε 8 (fun q => nI (ku τ 9 j v 9 q))) H1
  rw [e]
  exact ho
theorem km_p10 {ε : kEnv} {A : Nat → Prop} {bd : Nat → Nat} {τ : kS} {H H1 : Heap} {j v : Nat} (h : kM ε A bd τ H) (hU : kU (bd 10) H H1) (ho : kat ε (bd 10) (kI ε 8 (upd (fun q => nI (τ 10 q)) j (nI v))) H1) : kM ε A bd (ku τ 10 j v) H1 := by
  refine h.put 10 (by decide) hU ?_ (fun k hk hne => kM_fr k hk (fun _ g hg => ku_f _ _ _ _ (by omega)) (fun _ q => ku_f _ _ _ _ hne))
  have e : (fun q => nI (ku τ 10 j v 10 q)) = upd (fun q => nI (τ 10 q)) j (nI v) := by
    funext q
    unfold upd
    rw [ku_e]
    split <;> rfl
  show kat ε (bd 10) (kI ε 8 (fun q => nI (ku τ 10 j v 10 q))) H1
  rw [e]
  exact ho
theorem km_p11 {ε : kEnv} {A : Nat → Prop} {bd : Nat → Nat} {τ : kS} {H H1 : Heap} {j v : Nat} (h : kM ε A bd τ H) (hU : kU (bd 11) H H1) (ho : kat ε (bd 11) (kI ε 8 (upd (fun q => mI (τ 11 q)) j (mI v))) H1) : kM ε A bd (ku τ 11 j v) H1 := by
  refine h.put 11 (by decide) hU ?_ (fun k hk hne => kM_fr k hk (fun _ g hg => ku_f _ _ _ _ (by omega)) (fun _ q => ku_f _ _ _ _ hne))
  have e : (fun q => mI (ku τ 11 j v 11 q)) = upd (fun q => mI (τ 11 q)) j (mI v) := by
    funext q
    unfold upd
    rw [ku_e]
    split <;> rfl
  show kat ε (bd 11) (kI ε 8 (fun q => mI (ku τ 11 j v 11 q))) H1
  rw [e]
  exact ho
theorem km_p12 {ε : kEnv} {A : Nat → Prop} {bd : Nat → Nat} {τ : kS} {H H1 : Heap} {j v : Nat} (h : kM ε A bd τ H) (hU : kU (bd 12) H H1) (ho : kat ε (bd 12) (kI ε 8 (upd (fun q => nI (τ 12 q)) j (nI v))) H1) : kM ε A bd (ku τ 12 j v) H1 := by
  refine h.put 12 (by decide) hU ?_ (fun k hk hne => kM_fr k hk (fun _ g hg => ku_f _ _ _ _ (by omega)) (fun _ q => ku_f _ _ _ _ hne))
  have e : (fun q => nI (ku τ 12 j v 12 q)) = upd (fun q => nI (τ 12 q)) j (nI v) := by
    funext q
    unfold upd
    rw [ku_e]
    split <;> rfl
  show kat ε (bd 12) (kI ε 8 (fun q => nI (ku τ 12 j v 12 q))) H1
  rw [e]
  exact ho
theorem km_p13 {ε : kEnv} {A : Nat → Prop} {bd : Nat → Nat} {τ : kS} {H H1 : Heap} {j v : Nat} (h : kM ε A bd τ H) (hU : kU (bd 13) H H1) (ho : kat ε (bd 13) (kI ε 8 (upd (fun q => nI (τ 13 q)) j (nI v))) H1) : kM ε A bd (ku τ 13 j v) H1 := by
  refine h.put 13 (by decide) hU ?_ (fun k hk hne => kM_fr k hk (fun _ g hg => ku_f _ _ _ _ (by omega)) (fun _ q => ku_f _ _ _ _ hne))
  have e : (fun q => nI (ku τ 13 j v 13 q)) = upd (fun q => nI (τ 13 q)) j (nI v) := by
    funext q
    unfold upd
    rw [ku_e]
    split <;> rfl
  show kat ε (bd 13) (kI ε 8 (fun q => nI (ku τ 13 j v 13 q))) H1
  rw [e]
  exact ho
theorem km_p14 {ε : kEnv} {A : Nat → Prop} {bd : Nat → Nat} {τ : kS} {H H1 : Heap} {j v : Nat} (h : kM ε A bd τ H) (hU : kU (bd 14) H H1) (ho : kat ε (bd 14) (kZ ε 48 (upd (fun q => nI (τ 14 q)) j (nI v))) H1) : kM ε A bd (ku τ 14 j v) H1 := by
  refine h.put 14 (by decide) hU ?_ (fun k hk hne => kM_fr k hk (fun _ g hg => ku_f _ _ _ _ (by omega)) (fun _ q => ku_f _ _ _ _ hne))
  have e : (fun q => nI (ku τ 14 j v 14 q)) = upd (fun q => nI (τ 14 q)) j (nI v) := by
    funext q
    unfold upd
    rw [ku_e]
    split <;> rfl
  show kat ε (bd 14) (kZ ε 48 (fun q => nI (ku τ 14 j v 14 q))) H1
  rw [e]
  exact ho
theorem km_p15 {ε : kEnv} {A : Nat → Prop} {bd : Nat → Nat} {τ : kS} {H H1 : Heap} {j v : Nat} (h : kM ε A bd τ H) (hU : kU (bd 15) H H1) (ho : kat ε (bd 15) (kI ε 48 (upd (fun q => nI (τ 15 q)) j (nI v))) H1) : kM ε A bd (ku τ 15 j v) H1 := by
  refine h.put 15 (by decide) hU ?_ (fun k hk hne => kM_fr k hk (fun _ g hg => ku_f _ _ _ _ (by omega)) (fun _ q => ku_f _ _ _ _ hne))
  have e : (fun q => nI (ku τ 15 j v 15 q)) = upd (fun q => nI (τ 15 q)) j (nI v) := by
    funext q
    unfold upd
    rw [ku_e]
    split <;> rfl
  show kat ε (bd 15) (kI ε 48 (fun q => nI (ku τ 15 j v 15 q))) H1
  rw [e]
  exact ho
theorem km_p16 {ε : kEnv} {A : Nat → Prop} {bd : Nat → Nat} {τ : kS} {H H1 : Heap} {j v : Nat} (h : kM ε A bd τ H) (hU : kU (bd 16) H H1) (ho : kat ε (bd 16) (kI ε 48 (upd (fun q => nI (τ 16 q)) j (nI v))) H1) : kM ε A bd (ku τ 16 j v) H1 := by
  refine h.put 16 (by decide) hU ?_ (fun k hk hne => kM_fr k hk (fun _ g hg => ku_f _ _ _ _ (by omega)) (fun _ q => ku_f _ _ _ _ hne))
  have e : (fun q => nI (ku τ 16 j v 16 q)) = upd (fun q => nI (τ 16 q)) j (nI v) := by
    funext q
    unfold upd
    rw [ku_e]
    split <;> rfl
  show kat ε (bd 16) (kI ε 48 (fun q => nI (ku τ 16 j v 16 q))) H1
  rw [e]
  exact ho
theorem km_p17 {ε : kEnv} {A : Nat → Prop} {bd : Nat → Nat} {τ : kS} {H H1 : Heap} {j v : Nat} (h : kM ε A bd τ H) (hU : kU (bd 17) H H1) (ho : kat ε (bd 17) (kI ε 48 (upd (fun q => nI (τ 17 q)) j (nI v))) H1) : kM ε A bd (ku τ 17 j v) H1 := by
  refine h.put 17 (by decide) hU ?_ (fun k hk hne => kM_fr k hk (fun _ g hg => ku_f _ _ _ _ (by omega)) (fun _ q => ku_f _ _ _ _ hne))
  have e : (fun q => nI (ku τ 17 j v 17 q)) = upd (fun q => nI (τ 17 q)) j (nI v) := by
    funext q
    unfold upd
    rw [ku_e]
    split <;> rfl
  show kat ε (bd 17) (kI ε 48 (fun q => nI (ku τ 17 j v 17 q))) H1
  rw [e]
  exact ho
theorem km_p18 {ε : kEnv} {A : Nat → Prop} {bd : Nat → Nat} {τ : kS} {H H1 : Heap} {j v : Nat} (h : kM ε A bd τ H) (hU : kU (bd 18) H H1) (ho : kat ε (bd 18) (kI ε 12 (upd (fun q => nI (τ 18 q)) j (nI v))) H1) : kM ε A bd (ku τ 18 j v) H1 := by
  refine h.put 18 (by decide) hU ?_ (fun k hk hne => kM_fr k hk (fun _ g hg => ku_f _ _ _ _ (by omega)) (fun _ q => ku_f _ _ _ _ hne))
  have e : (fun q => nI (ku τ 18 j v 18 q)) = upd (fun q => nI (τ 18 q)) j (nI v) := by
    funext q
    unfold upd
    rw [ku_e]
    split <;> rfl
  show kat ε (bd 18) (kI ε 12 (fun q => nI (ku τ 18 j v 18 q))) H1
  rw [e]
  exact ho
theorem km_p19 {ε : kEnv} {A : Nat → Prop} {bd : Nat → Nat} {τ : kS} {H H1 : Heap} {j v : Nat} (h : kM ε A bd τ H) (hU : kU (bd 19) H H1) (ho : kat ε (bd 19) (kI ε 12 (upd (fun q => nI (τ 19 q)) j (nI v))) H1) : kM ε A bd (ku τ 19 j v) H1 := by
  refine h.put 19 (by decide) hU ?_ (fun k hk hne => kM_fr k hk (fun _ g hg => ku_f _ _ _ _ (by omega)) (fun _ q => ku_f _ _ _ _ hne))
  have e : (fun q => nI (ku τ 19 j v 19 q)) = upd (fun q => nI (τ 19 q)) j (nI v) := by
    funext q
    unfold upd
    rw [ku_e]
    split <;> rfl
  show kat ε (bd 19) (kI ε 12 (fun q => nI (ku τ 19 j v 19 q))) H1
  rw [e]
  exact ho
theorem km_p20 {ε : kEnv} {A : Nat → Prop} {bd : Nat → Nat} {τ : kS} {H H1 : Heap} {j v : Nat} (h : kM ε A bd τ H) (hU : kU (bd 20) H H1) (ho : kat ε (bd 20) (kI ε 12 (upd (fun q => nI (τ 20 q)) j (nI v))) H1) : kM ε A bd (ku τ 20 j v) H1 := by
  refine h.put 20 (by decide) hU ?_ (fun k hk hne => kM_fr k hk (fun _ g hg => ku_f _ _ _ _ (by omega)) (fun _ q => ku_f _ _ _ _ hne))
  have e : (fun q => nI (ku τ 20 j v 20 q)) = upd (fun q => nI (τ 20 q)) j (nI v) := by
    funext q
    unfold upd
    rw [ku_e]
    split <;> rfl
  show kat ε (bd 20) (kI ε 12 (fun q => nI (ku τ 20 j v 20 q))) H1
  rw [e]
  exact ho
theorem km_p21 {ε : kEnv} {A : Nat → Prop} {bd : Nat → Nat} {τ : kS} {H H1 : Heap} {j v : Nat} (h : kM ε A bd τ H) (hU : kU (bd 21) H H1) (ho : kat ε (bd 21) (kI ε 60000 (upd (fun q => nI (τ 21 q)) j (nI v))) H1) : kM ε A bd (ku τ 21 j v) H1 := by
  refine h.put 21 (by decide) hU ?_ (fun k hk hne => kM_fr k hk (fun _ g hg => ku_f _ _ _ _ (by omega)) (fun _ q => ku_f _ _ _ _ hne))
  have e : (fun q => nI (ku τ 21 j v 21 q)) = upd (fun q => nI (τ 21 q)) j (nI v) := by
    funext q
    unfold upd
    rw [ku_e]
    split <;> rfl
  show kat ε (bd 21) (kI ε 60000 (fun q => nI (ku τ 21 j v 21 q))) H1
  rw [e]
  exact ho
theorem km_p22 {ε : kEnv} {A : Nat → Prop} {bd : Nat → Nat} {τ : kS} {H H1 : Heap} {j v : Nat} (h : kM ε A bd τ H) (hU : kU (bd 22) H H1) (ho : kat ε (bd 22) (kI ε 60000 (upd (fun q => mI (τ 22 q)) j (mI v))) H1) : kM ε A bd (ku τ 22 j v) H1 := by
  refine h.put 22 (by decide) hU ?_ (fun k hk hne => kM_fr k hk (fun _ g hg => ku_f _ _ _ _ (by omega)) (fun _ q => ku_f _ _ _ _ hne))
  have e : (fun q => mI (ku τ 22 j v 22 q)) = upd (fun q => mI (τ 22 q)) j (mI v) := by
    funext q
    unfold upd
    rw [ku_e]
    split <;> rfl
  show kat ε (bd 22) (kI ε 60000 (fun q => mI (ku τ 22 j v 22 q))) H1
  rw [e]
  exact ho
theorem km_p30 {ε : kEnv} {A : Nat → Prop} {bd : Nat → Nat} {τ : kS} {H H1 : Heap} {v : Nat} (h : kM ε A bd τ H) (hU : kU (bd 0) H H1) (ho : kat ε (bd 0) (.inr (6, [.int (nI v), .int (nI (τ 31 0)), .ref (bd 1), .ref (bd 2), .ref (bd 3), .ref (bd 4), .ref (bd 5), .int (nI (τ 32 0)), .ref (bd 6), .ref (bd 7), .ref (bd 8), .ref (bd 9), .ref (bd 10), .ref (bd 11), .ref (bd 12), .ref (bd 13), .ref (bd 14), .ref (bd 15), .ref (bd 16), .ref (bd 17), .int (nI (τ 33 0)), .ref (bd 18), .ref (bd 19), .ref (bd 20), .int (nI (τ 34 0)), .ref (bd 21), .ref (bd 22), .int (nI (τ 35 0))])) H1) : kM ε A bd (ku τ 30 0 v) H1 := by
  refine h.put 0 (by decide) hU ?_ (fun k hk hne => kM_fr k hk (fun h => absurd h hne) (fun _ q => ku_f _ _ _ _ (by omega)))
  rw [show kMC ε bd (ku τ 30 0 v) 0 = .inr (6, [.int (nI v), .int (nI (τ 31 0)), .ref (bd 1), .ref (bd 2), .ref (bd 3), .ref (bd 4), .ref (bd 5), .int (nI (τ 32 0)), .ref (bd 6), .ref (bd 7), .ref (bd 8), .ref (bd 9), .ref (bd 10), .ref (bd 11), .ref (bd 12), .ref (bd 13), .ref (bd 14), .ref (bd 15), .ref (bd 16), .ref (bd 17), .int (nI (τ 33 0)), .ref (bd 18), .ref (bd 19), .ref (bd 20), .int (nI (τ 34 0)), .ref (bd 21), .ref (bd 22), .int (nI (τ 35 0))]) from by simp [kMC, ku]]
  exact ho
theorem km_p31 {ε : kEnv} {A : Nat → Prop} {bd : Nat → Nat} {τ : kS} {H H1 : Heap} {v : Nat} (h : kM ε A bd τ H) (hU : kU (bd 0) H H1) (ho : kat ε (bd 0) (.inr (6, [.int (nI (τ 30 0)), .int (nI v), .ref (bd 1), .ref (bd 2), .ref (bd 3), .ref (bd 4), .ref (bd 5), .int (nI (τ 32 0)), .ref (bd 6), .ref (bd 7), .ref (bd 8), .ref (bd 9), .ref (bd 10), .ref (bd 11), .ref (bd 12), .ref (bd 13), .ref (bd 14), .ref (bd 15), .ref (bd 16), .ref (bd 17), .int (nI (τ 33 0)), .ref (bd 18), .ref (bd 19), .ref (bd 20), .int (nI (τ 34 0)), .ref (bd 21), .ref (bd 22), .int (nI (τ 35 0))])) H1) : kM ε A bd (ku τ 31 0 v) H1 := by
  refine h.put 0 (by decide) hU ?_ (fun k hk hne => kM_fr k hk (fun h => absurd h hne) (fun _ q => ku_f _ _ _ _ (by omega)))
  rw [show kMC ε bd (ku τ 31 0 v) 0 = .inr (6, [.int (nI (τ 30 0)), .int (nI v), .ref (bd 1), .ref (bd 2), .ref (bd 3), .ref (bd 4), .ref (bd 5), .int (nI (τ 32 0)), .ref (bd 6), .ref (bd 7), .ref (bd 8), .ref (bd 9), .ref (bd 10), .ref (bd 11), .ref (bd 12), .ref (bd 13), .ref (bd 14), .ref (bd 15), .ref (bd 16), .ref (bd 17), .int (nI (τ 33 0)), .ref (bd 18), .ref (bd 19), .ref (bd 20), .int (nI (τ 34 0)), .ref (bd 21), .ref (bd 22), .int (nI (τ 35 0))]) from by simp [kMC, ku]]
  exact ho
theorem km_p32 {ε : kEnv} {A : Nat → Prop} {bd : Nat → Nat} {τ : kS} {H H1 : Heap} {v : Nat} (h : kM ε A bd τ H) (hU : kU (bd 0) H H1) (ho : kat ε (bd 0) (.inr (6, [.int (nI (τ 30 0)), .int (nI (τ 31 0)), .ref (bd 1), .ref (bd 2), .ref (bd 3), .ref (bd 4), .ref (bd 5), .int (nI v), .ref (bd 6), .ref (bd 7), .ref (bd 8), .ref (bd 9), .ref (bd 10), .ref (bd 11), .ref (bd 12), .ref (bd 13), .ref (bd 14), .ref (bd 15), .ref (bd 16), .ref (bd 17), .int (nI (τ 33 0)), .ref (bd 18), .ref (bd 19), .ref (bd 20), .int (nI (τ 34 0)), .ref (bd 21), .ref (bd 22), .int (nI (τ 35 0))])) H1) : kM ε A bd (ku τ 32 0 v) H1 := by
  refine h.put 0 (by decide) hU ?_ (fun k hk hne => kM_fr k hk (fun h => absurd h hne) (fun _ q => ku_f _ _ _ _ (by omega)))
  rw [show kMC ε bd (ku τ 32 0 v) 0 = .inr (6, [.int (nI (τ 30 0)), .int (nI (τ 31 0)), .ref (bd 1), .ref (bd 2), .ref (bd 3), .ref (bd 4), .ref (bd 5), .int (nI v), .ref (bd 6), .ref (bd 7), .ref (bd 8), .ref (bd 9), .ref (bd 10), .ref (bd 11), .ref (bd 12), .ref (bd 13), .ref (bd 14), .ref (bd 15), .ref (bd 16), .ref (bd 17), .int (nI (τ 33 0)), .ref (bd 18), .ref (bd 19), .ref (bd 20), .int (nI (τ 34 0)), .ref (bd 21), .ref (bd 22), .int (nI (τ 35 0))]) from by simp [kMC, ku]]
  exact ho
theorem km_p33 {ε : kEnv} {A : Nat → Prop} {bd : Nat → Nat} {τ : kS} {H H1 : Heap} {v : Nat} (h : kM ε A bd τ H) (hU : kU (bd 0) H H1) (ho : kat ε (bd 0) (.inr (6, [.int (nI (τ 30 0)), .int (nI (τ 31 0)), .ref (bd 1), .ref (bd 2), .ref (bd 3), .ref (bd 4), .ref (bd 5), .int (nI (τ 32 0)), .ref (bd 6), .ref (bd 7), .ref (bd 8), .ref (bd 9), .ref (bd 10), .ref (bd 11), .ref (bd 12), .ref (bd 13), .ref (bd 14), .ref (bd 15), .ref (bd 16), .ref (bd 17), .int (nI v), .ref (bd 18), .ref (bd 19), .ref (bd 20), .int (nI (τ 34 0)), .ref (bd 21), .ref (bd 22), .int (nI (τ 35 0))])) H1) : kM ε A bd (ku τ 33 0 v) H1 := by
  refine h.put 0 (by decide) hU ?_ (fun k hk hne => kM_fr k hk (fun h => absurd h hne) (fun _ q => ku_f _ _ _ _ (by omega)))
  rw [show kMC ε bd (ku τ 33 0 v) 0 = .inr (6, [.int (nI (τ 30 0)), .int (nI (τ 31 0)), .ref (bd 1), .ref (bd 2), .ref (bd 3), .ref (bd 4), .ref (bd 5), .int (nI (τ 32 0)), .ref (bd 6), .ref (bd 7), .ref (bd 8), .ref (bd 9), .ref (bd 10), .ref (bd 11), .ref (bd 12), .ref (bd 13), .ref (bd 14), .ref (bd 15), .ref (bd 16), .ref (bd 17), .int (nI v), .ref (bd 18), .ref (bd 19), .ref (bd 20), .int (nI (τ 34 0)), .ref (bd 21), .ref (bd 22), .int (nI (τ 35 0))]) from by simp [kMC, ku]]
  exact ho
theorem km_p34 {ε : kEnv} {A : Nat → Prop} {bd : Nat → Nat} {τ : kS} {H H1 : Heap} {v : Nat} (h : kM ε A bd τ H) (hU : kU (bd 0) H H1) (ho : kat ε (bd 0) (.inr (6, [.int (nI (τ 30 0)), .int (nI (τ 31 0)), .ref (bd 1), .ref (bd 2), .ref (bd 3), .ref (bd 4), .ref (bd 5), .int (nI (τ 32 0)), .ref (bd 6), .ref (bd 7), .ref (bd 8), .ref (bd 9), .ref (bd 10), .ref (bd 11), .ref (bd 12), .ref (bd 13), .ref (bd 14), .ref (bd 15), .ref (bd 16), .ref (bd 17), .int (nI (τ 33 0)), .ref (bd 18), .ref (bd 19), .ref (bd 20), .int (nI v), .ref (bd 21), .ref (bd 22), .int (nI (τ 35 0))])) H1) : kM ε A bd (ku τ 34 0 v) H1 := by
  refine h.put 0 (by decide) hU ?_ (fun k hk hne => kM_fr k hk (fun h => absurd h hne) (fun _ q => ku_f _ _ _ _ (by omega)))
  rw [show kMC ε bd (ku τ 34 0 v) 0 = .inr (6, [.int (nI (τ 30 0)), .int (nI (τ 31 0)), .ref (bd 1), .ref (bd 2), .ref (bd 3), .ref (bd 4), .ref (bd 5), .int (nI (τ 32 0)), .ref (bd 6), .ref (bd 7), .ref (bd 8), .ref (bd 9), .ref (bd 10), .ref (bd 11), .ref (bd 12), .ref (bd 13), .ref (bd 14), .ref (bd 15), .ref (bd 16), .ref (bd 17), .int (nI (τ 33 0)), .ref (bd 18), .ref (bd 19), .ref (bd 20), .int (nI v), .ref (bd 21), .ref (bd 22), .int (nI (τ 35 0))]) from by simp [kMC, ku]]
  exact ho
theorem km_p35 {ε : kEnv} {A : Nat → Prop} {bd : Nat → Nat} {τ : kS} {H H1 : Heap} {v : Nat} (h : kM ε A bd τ H) (hU : kU (bd 0) H H1) (ho : kat ε (bd 0) (.inr (6, [.int (nI (τ 30 0)), .int (nI (τ 31 0)), .ref (bd 1), .ref (bd 2), .ref (bd 3), .ref (bd 4), .ref (bd 5), .int (nI (τ 32 0)), .ref (bd 6), .ref (bd 7), .ref (bd 8), .ref (bd 9), .ref (bd 10), .ref (bd 11), .ref (bd 12), .ref (bd 13), .ref (bd 14), .ref (bd 15), .ref (bd 16), .ref (bd 17), .int (nI (τ 33 0)), .ref (bd 18), .ref (bd 19), .ref (bd 20), .int (nI (τ 34 0)), .ref (bd 21), .ref (bd 22), .int (nI v)])) H1) : kM ε A bd (ku τ 35 0 v) H1 := by
  refine h.put 0 (by decide) hU ?_ (fun k hk hne => kM_fr k hk (fun h => absurd h hne) (fun _ q => ku_f _ _ _ _ (by omega)))
  rw [show kMC ε bd (ku τ 35 0 v) 0 = .inr (6, [.int (nI (τ 30 0)), .int (nI (τ 31 0)), .ref (bd 1), .ref (bd 2), .ref (bd 3), .ref (bd 4), .ref (bd 5), .int (nI (τ 32 0)), .ref (bd 6), .ref (bd 7), .ref (bd 8), .ref (bd 9), .ref (bd 10), .ref (bd 11), .ref (bd 12), .ref (bd 13), .ref (bd 14), .ref (bd 15), .ref (bd 16), .ref (bd 17), .int (nI (τ 33 0)), .ref (bd 18), .ref (bd 19), .ref (bd 20), .int (nI (τ 34 0)), .ref (bd 21), .ref (bd 22), .int (nI v)]) from by simp [kMC, ku]]
  exact ho
