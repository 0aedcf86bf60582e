/-! ===== the bounds by name; the lists of the world ===== -/
theorem kB.min {σ : kS} (h : kB σ) : σ 0 0 ≤ 102400 := h.1
theorem kB.nR {σ : kS} (h : kB σ) : σ 1 0 ≤ 6 := h.2.1
theorem kB.nC {σ : kS} (h : kB σ) : σ 2 0 ≤ 8 := h.2.2.1
theorem kB.nW {σ : kS} (h : kB σ) : σ 3 0 ≤ 12 := h.2.2.2.1
theorem kB.nA {σ : kS} (h : kB σ) : σ 4 0 ≤ 51000 := h.2.2.2.2.1
theorem kB.cut {σ : kS} (h : kB σ) : σ 14 0 < 64 := h.2.2.2.2.2.1
theorem kB.bad {σ : kS} (h : kB σ) : σ 15 0 < 64 := h.2.2.2.2.2.2.1
theorem kB.rg {σ : kS} (h : kB σ) : ∀ r, r < σ 1 0 → σ 11 r < 64 ∧ σ 10 r ≤ r := h.2.2.2.2.2.2.2.1
theorem kB.ck {σ : kS} (h : kB σ) : ∀ c, c < σ 2 0 → (1 ≤ σ 20 c ∧ σ 20 c ≤ 60) ∧ σ 21 c ≤ 1000 ∧ σ 22 c ≤ 3 ∧ (1 ≤ σ 23 c ∧ σ 23 c ≤ 6) ∧ σ 24 c ≤ 2 ∧ σ 30 c < 64 ∧ σ 25 c ≤ σ 4 0 := h.2.2.2.2.2.2.2.2.1
theorem kB.pr {σ : kS} (h : kB σ) : ∀ c r, c < σ 2 0 → r < 6 → σ 31 (6 * c + r) ≤ 2 ∧ σ 32 (6 * c + r) ≤ 3 ∧ σ 33 (6 * c + r) ≤ 200000 := h.2.2.2.2.2.2.2.2.2.1
theorem kB.wn {σ : kS} (h : kB σ) : ∀ w, w < σ 3 0 → σ 40 w < 8 ∧ σ 41 w ≤ 100000 ∧ σ 42 w ≤ 120000 := h.2.2.2.2.2.2.2.2.2.2.1
theorem kB.al {σ : kS} (h : kB σ) : ∀ j, j < σ 4 0 → σ 50 j < 8 ∧ σ 51 j ≤ 102400 ∧ σ 52 j ≤ 102401 := h.2.2.2.2.2.2.2.2.2.2.2
theorem kB.cnt {σ : kS} (h : kB σ) (i : Nat) (hi : i < 4) : σ (i + 1) 0 < 2 ^ 31 := by
  have h1 := h.nR
  have h2 := h.nC
  have h3 := h.nW
  have h4 := h.nA
  match i, hi with
  | 0, _ => show σ 1 0 < _; omega
  | 1, _ => show σ 2 0 < _; omega
  | 2, _ => show σ 3 0 < _; omega
  | 3, _ => show σ 4 0 < _; omega
theorem kB.r6 {σ : kS} (h : kB σ) {r : Nat} (hr : r < σ 1 0) : r < 6 := Nat.lt_of_lt_of_le hr h.nR
theorem kB.c8 {σ : kS} (h : kB σ) {c : Nat} (hc : c < σ 2 0) : c < 8 := Nat.lt_of_lt_of_le hc h.nC
theorem ks31 {a b : Nat} (h : a < b) (hb : b ≤ 2147483647 := by omega) : a < 2 ^ 31 := by omega
theorem kw_size {ε : kEnv} {A : Nat → Prop} {ad : Nat → Nat → Nat} {σ : kS} {H : Heap} (l : Launch) (hw : kW ε A ad σ H) (i : Nat) (hi : i < 4) : kPi ε l yJx4a65c_size_8abf5 wsJx4a65c_size_8abf5 ({ frames := 0, cells := 0, slots := 0, locals := 0 }) [.ref (ad 1 i)] H (nI (σ (i + 1) 0)) :=
  cc_size ε l (hw.lv 1 i hi)
theorem kw_get {ε : kEnv} {A : Nat → Prop} {ad : Nat → Nat → Nat} {σ : kS} {H : Heap} (l : Launch) (hw : kW ε A ad σ H) (hB : kB σ) (i : Nat) (hi : i < 4) {j x : Nat} (hj : j < σ (i + 1) 0) (hx : ad (kel i) j = x) : kPr ε l yJx4a65c_get_915e3 wsJx4a65c_get_915e3 ({ frames := 2, cells := 0, slots := 0, locals := 43 }) [.ref (ad 1 i), .int (nI j)] H x := by
  subst hx
  exact cc_get ε l (hw.lv 1 i hi) (hw.lv 2 i ⟨hi, Nat.lt_of_le_of_lt (Nat.zero_le _) hj⟩) hj (hB.cnt i hi) (kcap_ge _) (if_pos hj)
theorem kNext_lt {σ : kS} (hB : kB σ) {i r t : Nat} (hi : i < σ 2 0) (hr6 : r < 6) (ht : t ≤ 200000) : kNext σ i r t < 2 ^ 31 := by
  have hk := hB.ck i hi
  have hp := hB.pr i r hi hr6
  unfold kNext
  split
  · omega
  · split
    · omega
    · split <;> omega
