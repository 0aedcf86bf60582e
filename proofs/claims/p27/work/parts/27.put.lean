/-! ===== writing one cell of the class's world ===== -/
theorem kV_ext {cI : ClassId} {n : Nat} {f g : Nat → Value} (h : ∀ j, j < n → f j = g j) : arrV cI n f = arrV cI n g := by
  have h1 : (fun j : Fin n => f j.val) = fun j => g j.val := funext fun j => h j.val j.isLt
  unfold arrV
  rw [h1]
theorem kI_ext {ε : kEnv} {a n : Nat} {f g : Nat → Int32} {H : Heap} (h : ∀ j, j < n → f j = g j) (ha : kat ε a (kI ε n f) H) : kat ε a (kI ε n g) H := by
  show H[a]? = some (vp_cell _ _)
  rw [show H[a]? = some (vp_cell (ε.2.1 0) (n, .inl f)) from ha, vp_cell_i, vp_cell_i]
  exact congrArg some (kV_ext (fun j hj => by rw [h j hj]))
theorem kO_ext {ε : kEnv} {a n : Nat} {f g : Nat → Option Nat} {H : Heap} (h : ∀ j, j < n → f j = g j) (ha : kat ε a (kO ε n f) H) : kat ε a (kO ε n g) H := by
  show H[a]? = some (vp_cell _ _)
  rw [show H[a]? = some (vp_cell (ε.2.1 2) (n, .inr (.inr (.inr (.inr f))))) from ha, vp_cell_q, vp_cell_q]
  exact congrArg some (kV_ext (fun j hj => by rw [h j hj]))
/-- the fields that a cell shows -/
def kAg (σ σ' : kS) (k i : Nat) : Prop := match k with
  | 0 => σ' 14 0 = σ 14 0 ∧ σ' 15 0 = σ 15 0 ∧ σ' 0 0 = σ 0 0
  | 1 => σ' (i + 1) 0 = σ (i + 1) 0
  | 2 => σ' (i + 1) 0 = σ (i + 1) 0
  | 3 => σ' 11 i = σ 11 i ∧ σ' 12 i = σ 12 i ∧ σ' 13 i = σ 13 i
  | 4 => (σ' 20 i = σ 20 i ∧ σ' 21 i = σ 21 i ∧ σ' 22 i = σ 22 i ∧ σ' 23 i = σ 23 i) ∧ σ' 30 i = σ 30 i ∧ σ' 24 i = σ 24 i ∧ σ' 25 i = σ 25 i ∧ σ' 26 i = σ 26 i ∧ σ' 27 i = σ 27 i
  | 5 => ∀ r, r < 6 → σ' 31 (6 * i + r) = σ 31 (6 * i + r)
  | 6 => ∀ r, r < 6 → σ' 32 (6 * i + r) = σ 32 (6 * i + r)
  | 7 => ∀ r, r < 6 → σ' 33 (6 * i + r) = σ 33 (6 * i + r)
  | 8 => σ' 40 i = σ 40 i ∧ σ' 41 i = σ 41 i ∧ σ' 42 i = σ 42 i
  | _ => σ' 50 i = σ 50 i ∧ σ' 51 i = σ 51 i ∧ σ' 52 i = σ 52 i
theorem kAg.at {ε : kEnv} {ad : Nat → Nat → Nat} {σ σ' : kS} {H : Heap} {a : Nat} {k i : Nat} (h : kAg σ σ' k i) (ha : kat ε a (kC ε ad σ k i) H) : kat ε a (kC ε ad σ' k i) H := by
  match k, h, ha with
  | 0, h, ha => obtain ⟨h1, h2, h3⟩ := h; simp only [kC, h1, h2, h3]; exact ha
  | 1, h, ha => have h1 : σ' (i + 1) 0 = σ (i + 1) 0 := h; simp only [kC, h1]; exact ha
  | 2, h, ha => have h1 : σ' (i + 1) 0 = σ (i + 1) 0 := h; simp only [kC, h1]; exact ha
  | 3, h, ha => obtain ⟨h1, h2, h3⟩ := h; simp only [kC, h1, h2, h3]; exact ha
  | 4, h, ha => obtain ⟨⟨h1, h2, h3, h4⟩, h5, h6, h7, h8, h9⟩ := h; simp only [kC, h1, h2, h3, h4, h5, h6, h7, h8, h9]; exact ha
  | 5, h, ha => exact kI_ext (fun j hj => by rw [h j hj]) ha
  | 6, h, ha => exact kI_ext (fun j hj => by rw [h j hj]) ha
  | 7, h, ha => exact kI_ext (fun j hj => by rw [h j hj]) ha
  | 8, h, ha => obtain ⟨h1, h2, h3⟩ := h; simp only [kC, h1, h2, h3]; exact ha
  | k + 9, h, ha => obtain ⟨h1, h2, h3⟩ := h; simp only [kC, h1, h2, h3]; exact ha
theorem kLv_ag {σ σ' : kS} (h : ∀ i, i < 4 → σ' (i + 1) 0 = σ (i + 1) 0) (k i : Nat) : kLv σ' k i ↔ kLv σ k i := by
  have h0 := h 0 (by decide)
  have h1 := h 1 (by decide)
  have h2 := h 2 (by decide)
  have h3 := h 3 (by decide)
  match k with
  | 0 => exact Iff.rfl
  | 1 => exact Iff.rfl
  | 2 => exact and_congr_right fun hi => by rw [h i hi]
  | 3 => show i < σ' 1 0 ↔ i < σ 1 0; rw [show σ' 1 0 = σ 1 0 from h0]
  | 4 => show i < σ' 2 0 ↔ i < σ 2 0; rw [show σ' 2 0 = σ 2 0 from h1]
  | 5 => show i < σ' 2 0 ↔ i < σ 2 0; rw [show σ' 2 0 = σ 2 0 from h1]
  | 6 => show i < σ' 2 0 ↔ i < σ 2 0; rw [show σ' 2 0 = σ 2 0 from h1]
  | 7 => show i < σ' 2 0 ↔ i < σ 2 0; rw [show σ' 2 0 = σ 2 0 from h1]
  | 8 => show i < σ' 3 0 ↔ i < σ 3 0; rw [show σ' 3 0 = σ 3 0 from h2]
  | 9 => show i < σ' 4 0 ↔ i < σ 4 0; rw [show σ' 4 0 = σ 4 0 from h3]
  | k + 10 => exact Iff.rfl
theorem kW.put {ε : kEnv} {A : Nat → Prop} {ad : Nat → Nat → Nat} {σ σ' : kS} {H H1 : Heap} (h : kW ε A ad σ H) (k0 i0 : Nat) (h0 : kLv σ k0 i0) (hU : kU (ad k0 i0) H H1) (hz : ∀ i, i < 4 → σ' (i + 1) 0 = σ (i + 1) 0)
    (h1 : kat ε (ad k0 i0) (kC ε ad σ' k0 i0) H1) (hc : ∀ k i, kLv σ k i → (k ≠ k0 ∨ i ≠ i0) → kAg σ σ' k i) : kW ε A ad σ' H1 := by
  have hl := kLv_ag hz
  refine ⟨fun k i hi => ?_, fun k i k' i' hi hi' => h.2.1 k i k' i' ((hl k i).mp hi) ((hl k' i').mp hi'), fun i hi he => h.2.2 i hi (by rw [← hz i hi]; exact he)⟩
  have hi := (hl k i).mp hi
  refine ⟨?_, (h.1 k i hi).2⟩
  by_cases hk : k = k0 ∧ i = i0
  · obtain ⟨rfl, rfl⟩ := hk
    exact h1
  · have hk' : k ≠ k0 ∨ i ≠ i0 := by
      by_cases h : k = k0
      · exact Or.inr (fun hi => hk ⟨h, hi⟩)
      · exact Or.inl h
    refine (hc k i hi hk').at (va_at.kept (h.1 k i hi).1 (hU.2 _ (fun he => ?_)))
    exact hk (h.2.1 k i k0 i0 hi h0 he)
theorem kw_p0 {ε : kEnv} {A : Nat → Prop} {ad : Nat → Nat → Nat} {σ : kS} {H H1 : Heap} {v : Nat} (hw : kW ε A ad σ H) (hU : kU (ad 0 0) H H1) (ho : kat ε (ad 0 0) (.inr (5, [.ref (ad 1 0), .ref (ad 1 1), .ref (ad 1 2), .ref (ad 1 3), .int (nI (σ 14 0)), .int (nI (σ 15 0)), .int (nI v)])) H1) : kW ε A ad (ku σ 0 0 v) H1 := by
  refine hw.put 0 0 (rfl : (0 : Nat) = 0) hU (fun j hj => ku_f _ _ _ _ (by omega)) (by rw [show kC ε ad (ku σ 0 0 v) 0 0 = .inr (5, [.ref (ad 1 0), .ref (ad 1 1), .ref (ad 1 2), .ref (ad 1 3), .int (nI (σ 14 0)), .int (nI (σ 15 0)), .int (nI v)]) from by simp [kC, ku]]; exact ho) ?_
  intro k j hl hne
  match k, hl, hne with
  | 0, hl, hne => exact absurd hl (fun h => hne.elim (fun z => z rfl) (fun z => z h))
  | 1, hl, hne => exact ku_f _ _ _ _ (by have : j < 4 := hl; omega)
  | 2, hl, hne => exact ku_f _ _ _ _ (by have : j < 4 := hl.1; omega)
  | 3, hl, hne => simp [kAg, ku]
  | 4, hl, hne => simp [kAg, ku]
  | 5, hl, hne => simp [kAg, ku]
  | 6, hl, hne => simp [kAg, ku]
  | 7, hl, hne => simp [kAg, ku]
  | 8, hl, hne => simp [kAg, ku]
  | 9, hl, hne => simp [kAg, ku]
  | k + 10, hl, hne => exact hl.elim
theorem kw_p14 {ε : kEnv} {A : Nat → Prop} {ad : Nat → Nat → Nat} {σ : kS} {H H1 : Heap} {v : Nat} (hw : kW ε A ad σ H) (hU : kU (ad 0 0) H H1) (ho : kat ε (ad 0 0) (.inr (5, [.ref (ad 1 0), .ref (ad 1 1), .ref (ad 1 2), .ref (ad 1 3), .int (nI v), .int (nI (σ 15 0)), .int (nI (σ 0 0))])) H1) : kW ε A ad (ku σ 14 0 v) H1 := by
  refine hw.put 0 0 (rfl : (0 : Nat) = 0) hU (fun j hj => ku_f _ _ _ _ (by omega)) (by rw [show kC ε ad (ku σ 14 0 v) 0 0 = .inr (5, [.ref (ad 1 0), .ref (ad 1 1), .ref (ad 1 2), .ref (ad 1 3), .int (nI v), .int (nI (σ 15 0)), .int (nI (σ 0 0))]) from by simp [kC, ku]]; exact ho) ?_
  intro k j hl hne
  match k, hl, hne with
  | 0, hl, hne => exact absurd hl (fun h => hne.elim (fun z => z rfl) (fun z => z h))
  | 1, hl, hne => exact ku_f _ _ _ _ (by have : j < 4 := hl; omega)
  | 2, hl, hne => exact ku_f _ _ _ _ (by have : j < 4 := hl.1; omega)
  | 3, hl, hne => simp [kAg, ku]
  | 4, hl, hne => simp [kAg, ku]
  | 5, hl, hne => simp [kAg, ku]
  | 6, hl, hne => simp [kAg, ku]
  | 7, hl, hne => simp [kAg, ku]
  | 8, hl, hne => simp [kAg, ku]
  | 9, hl, hne => simp [kAg, ku]
  | k + 10, hl, hne => exact hl.elim
theorem kw_p15 {ε : kEnv} {A : Nat → Prop} {ad : Nat → Nat → Nat} {σ : kS} {H H1 : Heap} {v : Nat} (hw : kW ε A ad σ H) (hU : kU (ad 0 0) H H1) (ho : kat ε (ad 0 0) (.inr (5, [.ref (ad 1 0), .ref (ad 1 1), .ref (ad 1 2), .ref (ad 1 3), .int (nI (σ 14 0)), .int (nI v), .int (nI (σ 0 0))])) H1) : kW ε A ad (ku σ 15 0 v) H1 := by
  refine hw.put 0 0 (rfl : (0 : Nat) = 0) hU (fun j hj => ku_f _ _ _ _ (by omega)) (by rw [show kC ε ad (ku σ 15 0 v) 0 0 = .inr (5, [.ref (ad 1 0), .ref (ad 1 1), .ref (ad 1 2), .ref (ad 1 3), .int (nI (σ 14 0)), .int (nI v), .int (nI (σ 0 0))]) from by simp [kC, ku]]; exact ho) ?_
  intro k j hl hne
  match k, hl, hne with
  | 0, hl, hne => exact absurd hl (fun h => hne.elim (fun z => z rfl) (fun z => z h))
  | 1, hl, hne => exact ku_f _ _ _ _ (by have : j < 4 := hl; omega)
  | 2, hl, hne => exact ku_f _ _ _ _ (by have : j < 4 := hl.1; omega)
  | 3, hl, hne => simp [kAg, ku]
  | 4, hl, hne => simp [kAg, ku]
  | 5, hl, hne => simp [kAg, ku]
  | 6, hl, hne => simp [kAg, ku]
  | 7, hl, hne => simp [kAg, ku]
  | 8, hl, hne => simp [kAg, ku]
  | 9, hl, hne => simp [kAg, ku]
  | k + 10, hl, hne => exact hl.elim
theorem kw_p12 {ε : kEnv} {A : Nat → Prop} {ad : Nat → Nat → Nat} {σ : kS} {H H1 : Heap} {i : Nat} {v : Nat} (hw : kW ε A ad σ H) (hi : i < σ 1 0) (hU : kU (ad 3 i) H H1) (ho : kat ε (ad 3 i) (.inr (3, [.int (nI i), .int (nI (σ 11 i)), .int (nI v), .int (nI (σ 13 i))])) H1) : kW ε A ad (ku σ 12 i v) H1 := by
  refine hw.put 3 i hi hU (fun j hj => ku_f _ _ _ _ (by omega)) (by rw [show kC ε ad (ku σ 12 i v) 3 i = .inr (3, [.int (nI i), .int (nI (σ 11 i)), .int (nI v), .int (nI (σ 13 i))]) from by simp [kC, ku]]; exact ho) ?_
  intro k j hl hne
  match k, hl, hne with
  | 0, hl, hne => simp [kAg, ku]
  | 1, hl, hne => exact ku_f _ _ _ _ (by have : j < 4 := hl; omega)
  | 2, hl, hne => exact ku_f _ _ _ _ (by have : j < 4 := hl.1; omega)
  | 3, hl, hne => have hj : j ≠ i := hne.resolve_left (fun z => z rfl); simp [kAg, ku, hj]
  | 4, hl, hne => simp [kAg, ku]
  | 5, hl, hne => simp [kAg, ku]
  | 6, hl, hne => simp [kAg, ku]
  | 7, hl, hne => simp [kAg, ku]
  | 8, hl, hne => simp [kAg, ku]
  | 9, hl, hne => simp [kAg, ku]
  | k + 10, hl, hne => exact hl.elim
theorem kw_p13 {ε : kEnv} {A : Nat → Prop} {ad : Nat → Nat → Nat} {σ : kS} {H H1 : Heap} {i : Nat} {v : Nat} (hw : kW ε A ad σ H) (hi : i < σ 1 0) (hU : kU (ad 3 i) H H1) (ho : kat ε (ad 3 i) (.inr (3, [.int (nI i), .int (nI (σ 11 i)), .int (nI (σ 12 i)), .int (nI v)])) H1) : kW ε A ad (ku σ 13 i v) H1 := by
  refine hw.put 3 i hi hU (fun j hj => ku_f _ _ _ _ (by omega)) (by rw [show kC ε ad (ku σ 13 i v) 3 i = .inr (3, [.int (nI i), .int (nI (σ 11 i)), .int (nI (σ 12 i)), .int (nI v)]) from by simp [kC, ku]]; exact ho) ?_
  intro k j hl hne
  match k, hl, hne with
  | 0, hl, hne => simp [kAg, ku]
  | 1, hl, hne => exact ku_f _ _ _ _ (by have : j < 4 := hl; omega)
  | 2, hl, hne => exact ku_f _ _ _ _ (by have : j < 4 := hl.1; omega)
  | 3, hl, hne => have hj : j ≠ i := hne.resolve_left (fun z => z rfl); simp [kAg, ku, hj]
  | 4, hl, hne => simp [kAg, ku]
  | 5, hl, hne => simp [kAg, ku]
  | 6, hl, hne => simp [kAg, ku]
  | 7, hl, hne => simp [kAg, ku]
  | 8, hl, hne => simp [kAg, ku]
  | 9, hl, hne => simp [kAg, ku]
  | k + 10, hl, hne => exact hl.elim
theorem kw_p23 {ε : kEnv} {A : Nat → Prop} {ad : Nat → Nat → Nat} {σ : kS} {H H1 : Heap} {i : Nat} {v : Nat} (hw : kW ε A ad σ H) (hi : i < σ 2 0) (hU : kU (ad 4 i) H H1) (ho : kat ε (ad 4 i) (.inr (2, [.int (nI i), .int (nI (σ 20 i)), .int (nI (σ 21 i)), .int (nI (σ 22 i)), .int (nI v), .int (nI (σ 30 i)), .ref (ad 5 i), .ref (ad 6 i), .ref (ad 7 i), .int (nI (σ 24 i)), va_rf (kop ad (σ 25 i)), .int (nI (σ 26 i)), .int (nI (σ 27 i))])) H1) : kW ε A ad (ku σ 23 i v) H1 := by
  refine hw.put 4 i hi hU (fun j hj => ku_f _ _ _ _ (by omega)) (by rw [show kC ε ad (ku σ 23 i v) 4 i = .inr (2, [.int (nI i), .int (nI (σ 20 i)), .int (nI (σ 21 i)), .int (nI (σ 22 i)), .int (nI v), .int (nI (σ 30 i)), .ref (ad 5 i), .ref (ad 6 i), .ref (ad 7 i), .int (nI (σ 24 i)), va_rf (kop ad (σ 25 i)), .int (nI (σ 26 i)), .int (nI (σ 27 i))]) from by simp [kC, ku]]; exact ho) ?_
  intro k j hl hne
  match k, hl, hne with
  | 0, hl, hne => simp [kAg, ku]
  | 1, hl, hne => exact ku_f _ _ _ _ (by have : j < 4 := hl; omega)
  | 2, hl, hne => exact ku_f _ _ _ _ (by have : j < 4 := hl.1; omega)
  | 3, hl, hne => simp [kAg, ku]
  | 4, hl, hne => have hj : j ≠ i := hne.resolve_left (fun z => z rfl); simp [kAg, ku, hj]
  | 5, hl, hne => simp [kAg, ku]
  | 6, hl, hne => simp [kAg, ku]
  | 7, hl, hne => simp [kAg, ku]
  | 8, hl, hne => simp [kAg, ku]
  | 9, hl, hne => simp [kAg, ku]
  | k + 10, hl, hne => exact hl.elim
theorem kw_p24 {ε : kEnv} {A : Nat → Prop} {ad : Nat → Nat → Nat} {σ : kS} {H H1 : Heap} {i : Nat} {v : Nat} (hw : kW ε A ad σ H) (hi : i < σ 2 0) (hU : kU (ad 4 i) H H1) (ho : kat ε (ad 4 i) (.inr (2, [.int (nI i), .int (nI (σ 20 i)), .int (nI (σ 21 i)), .int (nI (σ 22 i)), .int (nI (σ 23 i)), .int (nI (σ 30 i)), .ref (ad 5 i), .ref (ad 6 i), .ref (ad 7 i), .int (nI v), va_rf (kop ad (σ 25 i)), .int (nI (σ 26 i)), .int (nI (σ 27 i))])) H1) : kW ε A ad (ku σ 24 i v) H1 := by
  refine hw.put 4 i hi hU (fun j hj => ku_f _ _ _ _ (by omega)) (by rw [show kC ε ad (ku σ 24 i v) 4 i = .inr (2, [.int (nI i), .int (nI (σ 20 i)), .int (nI (σ 21 i)), .int (nI (σ 22 i)), .int (nI (σ 23 i)), .int (nI (σ 30 i)), .ref (ad 5 i), .ref (ad 6 i), .ref (ad 7 i), .int (nI v), va_rf (kop ad (σ 25 i)), .int (nI (σ 26 i)), .int (nI (σ 27 i))]) from by simp [kC, ku]]; exact ho) ?_
  intro k j hl hne
  match k, hl, hne with
  | 0, hl, hne => simp [kAg, ku]
  | 1, hl, hne => exact ku_f _ _ _ _ (by have : j < 4 := hl; omega)
  | 2, hl, hne => exact ku_f _ _ _ _ (by have : j < 4 := hl.1; omega)
  | 3, hl, hne => simp [kAg, ku]
  | 4, hl, hne => have hj : j ≠ i := hne.resolve_left (fun z => z rfl); simp [kAg, ku, hj]
  | 5, hl, hne => simp [kAg, ku]
  | 6, hl, hne => simp [kAg, ku]
  | 7, hl, hne => simp [kAg, ku]
  | 8, hl, hne => simp [kAg, ku]
  | 9, hl, hne => simp [kAg, ku]
  | k + 10, hl, hne => exact hl.elim
theorem kw_p25 {ε : kEnv} {A : Nat → Prop} {ad : Nat → Nat → Nat} {σ : kS} {H H1 : Heap} {i : Nat} {v : Nat} (hw : kW ε A ad σ H) (hi : i < σ 2 0) (hU : kU (ad 4 i) H H1) (ho : kat ε (ad 4 i) (.inr (2, [.int (nI i), .int (nI (σ 20 i)), .int (nI (σ 21 i)), .int (nI (σ 22 i)), .int (nI (σ 23 i)), .int (nI (σ 30 i)), .ref (ad 5 i), .ref (ad 6 i), .ref (ad 7 i), .int (nI (σ 24 i)), va_rf (kop ad v), .int (nI (σ 26 i)), .int (nI (σ 27 i))])) H1) : kW ε A ad (ku σ 25 i v) H1 := by
  refine hw.put 4 i hi hU (fun j hj => ku_f _ _ _ _ (by omega)) (by rw [show kC ε ad (ku σ 25 i v) 4 i = .inr (2, [.int (nI i), .int (nI (σ 20 i)), .int (nI (σ 21 i)), .int (nI (σ 22 i)), .int (nI (σ 23 i)), .int (nI (σ 30 i)), .ref (ad 5 i), .ref (ad 6 i), .ref (ad 7 i), .int (nI (σ 24 i)), va_rf (kop ad v), .int (nI (σ 26 i)), .int (nI (σ 27 i))]) from by simp [kC, ku]]; exact ho) ?_
  intro k j hl hne
  match k, hl, hne with
  | 0, hl, hne => simp [kAg, ku]
  | 1, hl, hne => exact ku_f _ _ _ _ (by have : j < 4 := hl; omega)
  | 2, hl, hne => exact ku_f _ _ _ _ (by have : j < 4 := hl.1; omega)
  | 3, hl, hne => simp [kAg, ku]
  | 4, hl, hne => have hj : j ≠ i := hne.resolve_left (fun z => z rfl); simp [kAg, ku, hj]
  | 5, hl, hne => simp [kAg, ku]
  | 6, hl, hne => simp [kAg, ku]
  | 7, hl, hne => simp [kAg, ku]
  | 8, hl, hne => simp [kAg, ku]
  | 9, hl, hne => simp [kAg, ku]
  | k + 10, hl, hne => exact hl.elim
theorem kw_p26 {ε : kEnv} {A : Nat → Prop} {ad : Nat → Nat → Nat} {σ : kS} {H H1 : Heap} {i : Nat} {v : Nat} (hw : kW ε A ad σ H) (hi : i < σ 2 0) (hU : kU (ad 4 i) H H1) (ho : kat ε (ad 4 i) (.inr (2, [.int (nI i), .int (nI (σ 20 i)), .int (nI (σ 21 i)), .int (nI (σ 22 i)), .int (nI (σ 23 i)), .int (nI (σ 30 i)), .ref (ad 5 i), .ref (ad 6 i), .ref (ad 7 i), .int (nI (σ 24 i)), va_rf (kop ad (σ 25 i)), .int (nI v), .int (nI (σ 27 i))])) H1) : kW ε A ad (ku σ 26 i v) H1 := by
  refine hw.put 4 i hi hU (fun j hj => ku_f _ _ _ _ (by omega)) (by rw [show kC ε ad (ku σ 26 i v) 4 i = .inr (2, [.int (nI i), .int (nI (σ 20 i)), .int (nI (σ 21 i)), .int (nI (σ 22 i)), .int (nI (σ 23 i)), .int (nI (σ 30 i)), .ref (ad 5 i), .ref (ad 6 i), .ref (ad 7 i), .int (nI (σ 24 i)), va_rf (kop ad (σ 25 i)), .int (nI v), .int (nI (σ 27 i))]) from by simp [kC, ku]]; exact ho) ?_
  intro k j hl hne
  match k, hl, hne with
  | 0, hl, hne => simp [kAg, ku]
  | 1, hl, hne => exact ku_f _ _ _ _ (by have : j < 4 := hl; omega)
  | 2, hl, hne => exact ku_f _ _ _ _ (by have : j < 4 := hl.1; omega)
  | 3, hl, hne => simp [kAg, ku]
  | 4, hl, hne => have hj : j ≠ i := hne.resolve_left (fun z => z rfl); simp [kAg, ku, hj]
  | 5, hl, hne => simp [kAg, ku]
  | 6, hl, hne => simp [kAg, ku]
  | 7, hl, hne => simp [kAg, ku]
  | 8, hl, hne => simp [kAg, ku]
  | 9, hl, hne => simp [kAg, ku]
  | k + 10, hl, hne => exact hl.elim
theorem kw_p27 {ε : kEnv} {A : Nat → Prop} {ad : Nat → Nat → Nat} {σ : kS} {H H1 : Heap} {i : Nat} {v : Nat} (hw : kW ε A ad σ H) (hi : i < σ 2 0) (hU : kU (ad 4 i) H H1) (ho : kat ε (ad 4 i) (.inr (2, [.int (nI i), .int (nI (σ 20 i)), .int (nI (σ 21 i)), .int (nI (σ 22 i)), .int (nI (σ 23 i)), .int (nI (σ 30 i)), .ref (ad 5 i), .ref (ad 6 i), .ref (ad 7 i), .int (nI (σ 24 i)), va_rf (kop ad (σ 25 i)), .int (nI (σ 26 i)), .int (nI v)])) H1) : kW ε A ad (ku σ 27 i v) H1 := by
  refine hw.put 4 i hi hU (fun j hj => ku_f _ _ _ _ (by omega)) (by rw [show kC ε ad (ku σ 27 i v) 4 i = .inr (2, [.int (nI i), .int (nI (σ 20 i)), .int (nI (σ 21 i)), .int (nI (σ 22 i)), .int (nI (σ 23 i)), .int (nI (σ 30 i)), .ref (ad 5 i), .ref (ad 6 i), .ref (ad 7 i), .int (nI (σ 24 i)), va_rf (kop ad (σ 25 i)), .int (nI (σ 26 i)), .int (nI v)]) from by simp [kC, ku]]; exact ho) ?_
  intro k j hl hne
  match k, hl, hne with
  | 0, hl, hne => simp [kAg, ku]
  | 1, hl, hne => exact ku_f _ _ _ _ (by have : j < 4 := hl; omega)
  | 2, hl, hne => exact ku_f _ _ _ _ (by have : j < 4 := hl.1; omega)
  | 3, hl, hne => simp [kAg, ku]
  | 4, hl, hne => have hj : j ≠ i := hne.resolve_left (fun z => z rfl); simp [kAg, ku, hj]
  | 5, hl, hne => simp [kAg, ku]
  | 6, hl, hne => simp [kAg, ku]
  | 7, hl, hne => simp [kAg, ku]
  | 8, hl, hne => simp [kAg, ku]
  | 9, hl, hne => simp [kAg, ku]
  | k + 10, hl, hne => exact hl.elim
theorem kw_p30 {ε : kEnv} {A : Nat → Prop} {ad : Nat → Nat → Nat} {σ : kS} {H H1 : Heap} {i : Nat} {v : Nat} (hw : kW ε A ad σ H) (hi : i < σ 2 0) (hU : kU (ad 4 i) H H1) (ho : kat ε (ad 4 i) (.inr (2, [.int (nI i), .int (nI (σ 20 i)), .int (nI (σ 21 i)), .int (nI (σ 22 i)), .int (nI (σ 23 i)), .int (nI v), .ref (ad 5 i), .ref (ad 6 i), .ref (ad 7 i), .int (nI (σ 24 i)), va_rf (kop ad (σ 25 i)), .int (nI (σ 26 i)), .int (nI (σ 27 i))])) H1) : kW ε A ad (ku σ 30 i v) H1 := by
  refine hw.put 4 i hi hU (fun j hj => ku_f _ _ _ _ (by omega)) (by rw [show kC ε ad (ku σ 30 i v) 4 i = .inr (2, [.int (nI i), .int (nI (σ 20 i)), .int (nI (σ 21 i)), .int (nI (σ 22 i)), .int (nI (σ 23 i)), .int (nI v), .ref (ad 5 i), .ref (ad 6 i), .ref (ad 7 i), .int (nI (σ 24 i)), va_rf (kop ad (σ 25 i)), .int (nI (σ 26 i)), .int (nI (σ 27 i))]) from by simp [kC, ku]]; exact ho) ?_
  intro k j hl hne
  match k, hl, hne with
  | 0, hl, hne => simp [kAg, ku]
  | 1, hl, hne => exact ku_f _ _ _ _ (by have : j < 4 := hl; omega)
  | 2, hl, hne => exact ku_f _ _ _ _ (by have : j < 4 := hl.1; omega)
  | 3, hl, hne => simp [kAg, ku]
  | 4, hl, hne => have hj : j ≠ i := hne.resolve_left (fun z => z rfl); simp [kAg, ku, hj]
  | 5, hl, hne => simp [kAg, ku]
  | 6, hl, hne => simp [kAg, ku]
  | 7, hl, hne => simp [kAg, ku]
  | 8, hl, hne => simp [kAg, ku]
  | 9, hl, hne => simp [kAg, ku]
  | k + 10, hl, hne => exact hl.elim
theorem kw_p42 {ε : kEnv} {A : Nat → Prop} {ad : Nat → Nat → Nat} {σ : kS} {H H1 : Heap} {i : Nat} {v : Nat} (hw : kW ε A ad σ H) (hi : i < σ 3 0) (hU : kU (ad 8 i) H H1) (ho : kat ε (ad 8 i) (.inr (4, [.int (nI (σ 40 i)), .int (nI (σ 41 i)), .int (nI v)])) H1) : kW ε A ad (ku σ 42 i v) H1 := by
  refine hw.put 8 i hi hU (fun j hj => ku_f _ _ _ _ (by omega)) (by rw [show kC ε ad (ku σ 42 i v) 8 i = .inr (4, [.int (nI (σ 40 i)), .int (nI (σ 41 i)), .int (nI v)]) from by simp [kC, ku]]; exact ho) ?_
  intro k j hl hne
  match k, hl, hne with
  | 0, hl, hne => simp [kAg, ku]
  | 1, hl, hne => exact ku_f _ _ _ _ (by have : j < 4 := hl; omega)
  | 2, hl, hne => exact ku_f _ _ _ _ (by have : j < 4 := hl.1; omega)
  | 3, hl, hne => simp [kAg, ku]
  | 4, hl, hne => simp [kAg, ku]
  | 5, hl, hne => simp [kAg, ku]
  | 6, hl, hne => simp [kAg, ku]
  | 7, hl, hne => simp [kAg, ku]
  | 8, hl, hne => have hj : j ≠ i := hne.resolve_left (fun z => z rfl); simp [kAg, ku, hj]
  | 9, hl, hne => simp [kAg, ku]
  | k + 10, hl, hne => exact hl.elim
theorem kw_p52 {ε : kEnv} {A : Nat → Prop} {ad : Nat → Nat → Nat} {σ : kS} {H H1 : Heap} {i : Nat} {v : Nat} (hw : kW ε A ad σ H) (hi : i < σ 4 0) (hU : kU (ad 9 i) H H1) (ho : kat ε (ad 9 i) (.inr (1, [.int (nI (σ 50 i)), .int (nI (σ 51 i)), .int (mI v)])) H1) : kW ε A ad (ku σ 52 i v) H1 := by
  refine hw.put 9 i hi hU (fun j hj => ku_f _ _ _ _ (by omega)) (by rw [show kC ε ad (ku σ 52 i v) 9 i = .inr (1, [.int (nI (σ 50 i)), .int (nI (σ 51 i)), .int (mI v)]) from by simp [kC, ku]]; exact ho) ?_
  intro k j hl hne
  match k, hl, hne with
  | 0, hl, hne => simp [kAg, ku]
  | 1, hl, hne => exact ku_f _ _ _ _ (by have : j < 4 := hl; omega)
  | 2, hl, hne => exact ku_f _ _ _ _ (by have : j < 4 := hl.1; omega)
  | 3, hl, hne => simp [kAg, ku]
  | 4, hl, hne => simp [kAg, ku]
  | 5, hl, hne => simp [kAg, ku]
  | 6, hl, hne => simp [kAg, ku]
  | 7, hl, hne => simp [kAg, ku]
  | 8, hl, hne => simp [kAg, ku]
  | 9, hl, hne => have hj : j ≠ i := hne.resolve_left (fun z => z rfl); simp [kAg, ku, hj]
  | k + 10, hl, hne => exact hl.elim
theorem kw_p31 {ε : kEnv} {A : Nat → Prop} {ad : Nat → Nat → Nat} {σ : kS} {H H1 : Heap} {i r v : Nat} (hw : kW ε A ad σ H) (hi : i < σ 2 0) (hr : r < 6) (hU : kU (ad 5 i) H H1) (ho : kat ε (ad 5 i) (kI ε 6 (upd (fun r => nI (σ 31 (6 * i + r))) r (nI v))) H1) : kW ε A ad (ku σ 31 (6 * i + r) v) H1 := by
  refine hw.put 5 i hi hU (fun j hj => ku_f _ _ _ _ (by omega)) (kI_ext (fun j hj => ?_) ho) ?_
  · by_cases hjr : j = r
    · subst hjr; simp [upd, ku]
    · have h2 : ¬ 6 * i + j = 6 * i + r := by omega
      simp [upd, ku, hjr]
  intro k j hl hne
  match k, hl, hne with
  | 0, hl, hne => simp [kAg, ku]
  | 1, hl, hne => exact ku_f _ _ _ _ (by have : j < 4 := hl; omega)
  | 2, hl, hne => exact ku_f _ _ _ _ (by have : j < 4 := hl.1; omega)
  | 3, hl, hne => simp [kAg, ku]
  | 4, hl, hne => simp [kAg, ku]
  | 5, hl, hne => have hj : j ≠ i := hne.resolve_left (fun z => z rfl); intro r2 hr2; exact ku_i _ _ _ _ (by omega)
  | 6, hl, hne => simp [kAg, ku]
  | 7, hl, hne => simp [kAg, ku]
  | 8, hl, hne => simp [kAg, ku]
  | 9, hl, hne => simp [kAg, ku]
  | k + 10, hl, hne => exact hl.elim
theorem kw_p32 {ε : kEnv} {A : Nat → Prop} {ad : Nat → Nat → Nat} {σ : kS} {H H1 : Heap} {i r v : Nat} (hw : kW ε A ad σ H) (hi : i < σ 2 0) (hr : r < 6) (hU : kU (ad 6 i) H H1) (ho : kat ε (ad 6 i) (kI ε 6 (upd (fun r => nI (σ 32 (6 * i + r))) r (nI v))) H1) : kW ε A ad (ku σ 32 (6 * i + r) v) H1 := by
  refine hw.put 6 i hi hU (fun j hj => ku_f _ _ _ _ (by omega)) (kI_ext (fun j hj => ?_) ho) ?_
  · by_cases hjr : j = r
    · subst hjr; simp [upd, ku]
    · have h2 : ¬ 6 * i + j = 6 * i + r := by omega
      simp [upd, ku, hjr]
  intro k j hl hne
  match k, hl, hne with
  | 0, hl, hne => simp [kAg, ku]
  | 1, hl, hne => exact ku_f _ _ _ _ (by have : j < 4 := hl; omega)
  | 2, hl, hne => exact ku_f _ _ _ _ (by have : j < 4 := hl.1; omega)
  | 3, hl, hne => simp [kAg, ku]
  | 4, hl, hne => simp [kAg, ku]
  | 5, hl, hne => simp [kAg, ku]
  | 6, hl, hne => have hj : j ≠ i := hne.resolve_left (fun z => z rfl); intro r2 hr2; exact ku_i _ _ _ _ (by omega)
  | 7, hl, hne => simp [kAg, ku]
  | 8, hl, hne => simp [kAg, ku]
  | 9, hl, hne => simp [kAg, ku]
  | k + 10, hl, hne => exact hl.elim
theorem kw_p33 {ε : kEnv} {A : Nat → Prop} {ad : Nat → Nat → Nat} {σ : kS} {H H1 : Heap} {i r v : Nat} (hw : kW ε A ad σ H) (hi : i < σ 2 0) (hr : r < 6) (hU : kU (ad 7 i) H H1) (ho : kat ε (ad 7 i) (kI ε 6 (upd (fun r => nI (σ 33 (6 * i + r))) r (nI v))) H1) : kW ε A ad (ku σ 33 (6 * i + r) v) H1 := by
  refine hw.put 7 i hi hU (fun j hj => ku_f _ _ _ _ (by omega)) (kI_ext (fun j hj => ?_) ho) ?_
  · by_cases hjr : j = r
    · subst hjr; simp [upd, ku]
    · have h2 : ¬ 6 * i + j = 6 * i + r := by omega
      simp [upd, ku, hjr]
  intro k j hl hne
  match k, hl, hne with
  | 0, hl, hne => simp [kAg, ku]
  | 1, hl, hne => exact ku_f _ _ _ _ (by have : j < 4 := hl; omega)
  | 2, hl, hne => exact ku_f _ _ _ _ (by have : j < 4 := hl.1; omega)
  | 3, hl, hne => simp [kAg, ku]
  | 4, hl, hne => simp [kAg, ku]
  | 5, hl, hne => simp [kAg, ku]
  | 6, hl, hne => simp [kAg, ku]
  | 7, hl, hne => have hj : j ≠ i := hne.resolve_left (fun z => z rfl); intro r2 hr2; exact ku_i _ _ _ _ (by omega)
  | 8, hl, hne => simp [kAg, ku]
  | 9, hl, hne => simp [kAg, ku]
  | k + 10, hl, hne => exact hl.elim
