/-! ===== a new element in the class's world ===== -/
def kow (i k : Nat) : Bool := match i with
  | 0 => k == 3
  | 1 => decide (4 ≤ k) && decide (k ≤ 7)
  | 2 => k == 8
  | _ => k == 9
def kadd (ad : Nat → Nat → Nat) (i n : Nat) (b : Nat → Nat) (e : Nat) : Nat → Nat → Nat := fun k j => if k = 2 ∧ j = i then e else if kow i k = true ∧ j = n then b k else ad k j
theorem kow_kel : ∀ i, i < 4 → ∀ i', i' < 4 → kow i (kel i') = decide (i = i') := by decide
theorem kow_lo (i : Nat) : ∀ k, k < 3 → kow i k = false := by
  intro k hk
  have h : k = 0 ∨ k = 1 ∨ k = 2 := by omega
  match i with
  | 0 => rcases h with rfl | rfl | rfl <;> rfl
  | 1 => rcases h with rfl | rfl | rfl <;> rfl
  | 2 => rcases h with rfl | rfl | rfl <;> rfl
  | i + 3 => rcases h with rfl | rfl | rfl <;> rfl
theorem kadd_row (ad : Nat → Nat → Nat) (i n : Nat) (b : Nat → Nat) (e : Nat) : kadd ad i n b e 2 i = e := if_pos ⟨rfl, rfl⟩
theorem kadd_new (ad : Nat → Nat → Nat) {i : Nat} (n : Nat) (b : Nat → Nat) (e : Nat) {k : Nat} (h : kow i k = true) : kadd ad i n b e k n = b k := by
  have h2 : k ≠ 2 := fun h3 => by rw [h3, kow_lo i 2 (by decide)] at h; cases h
  unfold kadd
  rw [if_neg (fun q => h2 q.1), if_pos ⟨h, rfl⟩]
theorem kadd_old (ad : Nat → Nat → Nat) {i n : Nat} (b : Nat → Nat) (e : Nat) {k j : Nat} (h1 : ¬ (k = 2 ∧ j = i)) (h2 : ¬ (kow i k = true ∧ j = n)) : kadd ad i n b e k j = ad k j := by
  unfold kadd
  rw [if_neg h1, if_neg h2]
theorem kLv_own {σ : kS} {i k j : Nat} (hi : i < 4) (h : kow i k = true) (hl : kLv σ k j) : j < σ (i + 1) 0 := by
  match i, hi with
  | 0, _ => have h9 : k = 3 := by simpa [kow] using h
            subst h9; exact hl
  | 1, _ =>
    have h9 : 4 ≤ k ∧ k ≤ 7 := by simpa [kow] using h
    have h10 : k = 4 ∨ k = 5 ∨ k = 6 ∨ k = 7 := by omega
    rcases h10 with rfl | rfl | rfl | rfl <;> exact hl
  | 2, _ => have h9 : k = 8 := by simpa [kow] using h
            subst h9; exact hl
  | 3, _ => have h9 : k = 9 := by simpa [kow] using h
            subst h9; exact hl
theorem kLv_grow {σ σ' : kS} {i n : Nat} (hi : i < 4) (hn : σ (i + 1) 0 = n) (hsz : σ' (i + 1) 0 = n + 1) (hc : ∀ i', i' < 4 → i' ≠ i → σ' (i' + 1) 0 = σ (i' + 1) 0) {k j : Nat} (hl : kLv σ' k j) : (kow i k = true ∧ j = n) ∨ (k = 2 ∧ j = i) ∨ kLv σ k j := by
  have key : ∀ i' : Nat, i' < 4 → kow i k = decide (i = i') → j < σ' (i' + 1) 0 → (kow i k = true ∧ j = n) ∨ j < σ (i' + 1) 0 := by
    intro i' hi' hk hj
    by_cases h : i = i'
    · subst h
      rw [hsz] at hj
      rw [hn]
      by_cases h2 : j = n
      · exact Or.inl ⟨by rw [hk]; simp, h2⟩
      · exact Or.inr (by omega)
    · rw [hc i' hi' (Ne.symm h)] at hj
      exact Or.inr hj
  match k, hl with
  | 0, hl => exact Or.inr (Or.inr hl)
  | 1, hl => exact Or.inr (Or.inr hl)
  | 2, hl =>
    by_cases h : j = i
    · exact Or.inr (Or.inl ⟨rfl, h⟩)
    · exact Or.inr (Or.inr ⟨hl.1, by have h2 := hl.2; rw [hc j hl.1 h] at h2; exact h2⟩)
  | 3, hl => exact (key 0 (by decide) (kow_kel i hi 0 (by decide)) hl).elim Or.inl (fun q => Or.inr (Or.inr q))
  | 4, hl => exact (key 1 (by decide) (kow_kel i hi 1 (by decide)) hl).elim Or.inl (fun q => Or.inr (Or.inr q))
  | 5, hl => exact (key 1 (by decide) ((show ∀ i, i < 4 → kow i 5 = decide (i = 1) by decide) i hi) hl).elim Or.inl (fun q => Or.inr (Or.inr q))
  | 6, hl => exact (key 1 (by decide) ((show ∀ i, i < 4 → kow i 6 = decide (i = 1) by decide) i hi) hl).elim Or.inl (fun q => Or.inr (Or.inr q))
  | 7, hl => exact (key 1 (by decide) ((show ∀ i, i < 4 → kow i 7 = decide (i = 1) by decide) i hi) hl).elim Or.inl (fun q => Or.inr (Or.inr q))
  | 8, hl => exact (key 2 (by decide) (kow_kel i hi 2 (by decide)) hl).elim Or.inl (fun q => Or.inr (Or.inr q))
  | 9, hl => exact (key 3 (by decide) (kow_kel i hi 3 (by decide)) hl).elim Or.inl (fun q => Or.inr (Or.inr q))
/-- what an old cell shows does not change with the new addresses -/
theorem kC_add {ε : kEnv} {ad : Nat → Nat → Nat} {σ σ' : kS} {i n : Nat} (b : Nat → Nat) (e : Nat) (hi : i < 4) (hn : σ (i + 1) 0 = n) (hop : i = 3 → ad 9 n = b 9) (hc : ∀ i', i' < 4 → i' ≠ i → σ' (i' + 1) 0 = σ (i' + 1) 0) {k j : Nat} (hl : kLv σ k j) (h1 : ¬ (k = 1 ∧ j = i)) (h2 : ¬ (k = 2 ∧ j = i)) (h3 : ¬ (kow i k = true ∧ j = n)) : kC ε (kadd ad i n b e) σ' k j = kC ε ad σ' k j := by
  have o : ∀ k' j' : Nat, ¬ (k' = 2 ∧ j' = i) → ¬ (kow i k' = true ∧ j' = n) → kadd ad i n b e k' j' = ad k' j' := fun k' j' a b => kadd_old ad _ _ a b
  match k, hl, h1, h2, h3 with
  | 0, hl, h1, h2, h3 =>
    have q : ∀ j', kadd ad i n b e 1 j' = ad 1 j' := fun j' => o 1 j' (by simp) (by rw [kow_lo i 1 (by decide)]; simp)
    simp only [kC, q]
  | 1, hl, h1, h2, h3 => simp only [kC, o 2 j (fun q => h1 ⟨rfl, q.2⟩) (by rw [kow_lo i 2 (by decide)]; simp)]
  | 2, hl, h1, h2, h3 =>
    have hji : j ≠ i := fun q => h2 ⟨rfl, q⟩
    have q : ∀ j', kadd ad i n b e (kel j) j' = ad (kel j) j' := fun j' => o _ j' (fun q => by
      have h9 : ∀ j, j < 4 → kel j ≠ 2 := by decide
      exact h9 j hl.1 q.1) (fun q => by
      rw [kow_kel i hi j hl.1] at q
      exact hji (show i = j by simpa using q.1).symm)
    simp only [kC, q]
  | 3, hl, h1, h2, h3 => rfl
  | 4, hl, h1, h2, h3 =>
    have hk : ∀ k, 4 ≤ k → k ≤ 7 → kow i k = kow i 4 := by
      intro k h4 h7
      have h10 : k = 4 ∨ k = 5 ∨ k = 6 ∨ k = 7 := by omega
      exact (show ∀ i, i < 4 → ∀ k, (k = 4 ∨ k = 5 ∨ k = 6 ∨ k = 7) → kow i k = kow i 4 by intro i hi k hk; rcases hk with rfl | rfl | rfl | rfl <;> revert i <;> decide) i hi k h10
    have q : ∀ k, 4 ≤ k → k ≤ 7 → kadd ad i n b e k j = ad k j := fun k h4 h7 => o k j (by omega) (by rw [hk k h4 h7]; exact h3)
    have q9 : kop (kadd ad i n b e) (σ' 25 j) = kop ad (σ' 25 j) := by
      match σ' 25 j with
      | 0 => rfl
      | z + 1 =>
        refine congrArg some ?_
        by_cases h9 : kow i 9 = true ∧ z = n
        · have hi3 : i = 3 := by
            have := kow_kel i hi 3 (by decide)
            rw [show kel 3 = 9 from rfl, h9.1] at this
            simpa using this.symm
          rw [h9.2, kadd_new ad n b e h9.1, hop hi3]
        · exact o 9 z (by simp) h9
    simp only [kC, q 5 (by decide) (by decide), q 6 (by decide) (by decide), q 7 (by decide) (by decide), q9]
  | 5, hl, h1, h2, h3 => rfl
  | 6, hl, h1, h2, h3 => rfl
  | 7, hl, h1, h2, h3 => rfl
  | 8, hl, h1, h2, h3 => rfl
  | 9, hl, h1, h2, h3 => rfl
theorem kW.grow {ε : kEnv} {A : Nat → Prop} {ad : Nat → Nat → Nat} {σ σ' : kS} {H1 H2 : Heap} {i n : Nat} {b : Nat → Nat} (hw : kW ε A ad σ H1) (hi : i < 4) (hn : σ (i + 1) 0 = n) (hop : i = 3 → ad 9 n = b 9) (hsz : σ' (i + 1) 0 = n + 1) (hc : ∀ i', i' < 4 → i' ≠ i → σ' (i' + 1) 0 = σ (i' + 1) 0)
    (hag : ∀ k j, kLv σ k j → ¬ (k = 1 ∧ j = i) → ¬ (k = 2 ∧ j = i) → kAg σ σ' k j)
    (hb : ∀ k, kow i k = true → kat ε (b k) (kC ε (kadd ad i n b (if n < kcap n then ad 2 i else H1.size)) σ' k n) H1 ∧ A (b k)) (hnew : ∀ k, kow i k = true → ∀ k' j', kLv σ k' j' → b k ≠ ad k' j') (hbi : ∀ k k', kow i k = true → kow i k' = true → b k = b k' → k = k')
    (had : kAd ε (ad 1 i) (ad 2 i) n (b (kel i)) (ad (kel i)) H1.size H2) (hq : ∀ q, q < H1.size → ¬ kA2 (ad 1 i) (ad 2 i) H1.size n q → H2[q]? = H1[q]?) (hA : ∀ q, H1.size ≤ q → A q) :
    kW ε A (kadd ad i n b (if n < kcap n then ad 2 i else H1.size)) σ' H2 := by
  obtain ⟨e', he', hlist, hrow⟩ := had
  rw [← he'] at hb ⊢
  have l1 : kLv σ 1 i := hi
  have l2 : 0 < n → kLv σ 2 i := fun h => ⟨hi, by rw [hn]; exact h⟩
  have hcap0 : n < kcap n → 0 < n := fun h => Nat.pos_of_ne_zero (fun h0 => by rw [h0] at h; exact absurd h (by decide))
  have hold : ∀ k j, kLv σ k j → ¬ (kow i k = true ∧ j = n) := fun k j hl h => by
    have := kLv_own hi h.1 hl
    omega
  have unch : ∀ q, q < H1.size → q ≠ ad 1 i → (0 < n → q ≠ ad 2 i) → H2[q]? = H1[q]? := fun q h1 h2 h3 => hq q h1 (fun h => h.elim h2 (fun h => h.elim (fun h => h3 h.1 h.2) (fun h => absurd h1 (Nat.not_lt.mpr h))))
  have hke : kow i (kel i) = true := by rw [kow_kel i hi i hi]; simp
  -- where a live cell lies
  have place : ∀ k j, kLv σ' k j → (k = 2 ∧ j = i) ∨ (kow i k = true ∧ j = n ∧ kadd ad i n b e' k j = b k) ∨ (kLv σ k j ∧ ¬ (k = 2 ∧ j = i) ∧ kadd ad i n b e' k j = ad k j) := by
    intro k j hl
    by_cases h2 : k = 2 ∧ j = i
    · exact Or.inl h2
    · rcases kLv_grow hi hn hsz hc hl with h | h | h
      · obtain ⟨h3, rfl⟩ := h
        exact Or.inr (Or.inl ⟨h3, rfl, kadd_new ad _ b e' h3⟩)
      · exact absurd h h2
      · exact Or.inr (Or.inr ⟨h, h2, kadd_old ad b e' h2 (hold k j h)⟩)
  have hrow9 : ∀ k j, kLv σ k j → ¬ (k = 2 ∧ j = i) → ad k j ≠ e' := by
    intro k j hl h2 heq
    by_cases h : n < kcap n
    · rw [if_pos h] at he'
      have := hw.2.1 k j 2 i hl (l2 (hcap0 h)) (heq.trans he')
      exact h2 this
    · rw [if_neg h] at he'
      have := va_at.lt (hw.1 k j hl).1
      omega
  have hrowb : ∀ k, kow i k = true → b k ≠ e' := by
    intro k hk heq
    by_cases h : n < kcap n
    · rw [if_pos h] at he'
      exact hnew k hk 2 i (l2 (hcap0 h)) (heq.trans he')
    · rw [if_neg h] at he'
      have := va_at.lt (hb k hk).1
      omega
  refine ⟨fun k j hl => ?_, fun k j k' j' hl hl' heq => ?_, fun i' hi' h0 => ?_⟩
  · rcases place k j hl with ⟨rfl, rfl⟩ | ⟨hk, rfl, ea⟩ | ⟨ho, h2, ea⟩
    · rw [kadd_row]
      refine ⟨?_, ?_⟩
      · show kat ε e' (kO ε (kcap (σ' (j + 1) 0)) (fun q => if q < σ' (j + 1) 0 then some (kadd ad j n b e' (kel j) q) else none)) H2
        rw [hsz]
        refine kO_ext (fun q hq9 => ?_) hrow
        by_cases h1 : q = n
        · subst h1
          rw [if_pos rfl, if_pos (by omega), kadd_new ad _ b e' hke]
        · by_cases h3 : q < n
          · rw [if_neg h1, if_pos h3, if_pos (by omega), kadd_old ad b e' (fun h => by
              have h9 : ∀ j, j < 4 → kel j ≠ 2 := by decide
              exact h9 j hi h.1) (fun h => h1 h.2)]
          · rw [if_neg h1, if_neg h3, if_neg (by omega)]
      · by_cases h : n < kcap n
        · rw [he', if_pos h]
          exact (hw.1 2 j (l2 (hcap0 h))).2
        · rw [he', if_neg h]
          exact hA _ (Nat.le_refl _)
    · rw [ea]
      refine ⟨va_at.kept (hb k hk).1 (unch _ (va_at.lt (hb k hk).1) (hnew k hk 1 i l1) (fun h => hnew k hk 2 i (l2 h))), (hb k hk).2⟩
    · rw [ea]
      refine ⟨?_, (hw.1 k j ho).2⟩
      by_cases h1 : k = 1 ∧ j = i
      · obtain ⟨rfl, rfl⟩ := h1
        show kat ε (ad 1 j) (.inr (0, [.int (nI (σ' (j + 1) 0)), .ref (kadd ad j n b e' 2 j), .int (nI (σ' (j + 1) 0))])) H2
        rw [hsz, kadd_row]
        exact hlist
      · have e1 := (hag k j ho h1 h2).at (hw.1 k j ho).1
        rw [← kC_add (σ := σ) (ad := ad) b e' hi hn hop hc ho h1 h2 (hold k j ho)] at e1
        have hl9 : ad k j < H1.size := va_at.lt (hw.1 k j ho).1
        exact va_at.kept e1 (unch _ hl9 (fun h => h1 (hw.2.1 k j 1 i ho l1 h)) (fun h3 h => h2 (hw.2.1 k j 2 i ho (l2 h3) h)))
  · rcases place k j hl with ⟨rfl, rfl⟩ | ⟨hk, rfl, ea⟩ | ⟨ho, h2, ea⟩
    · rw [kadd_row] at heq
      rcases place k' j' hl' with ⟨rfl, rfl⟩ | ⟨hk', rfl, ea'⟩ | ⟨ho', h2', ea'⟩
      · exact ⟨rfl, rfl⟩
      · rw [ea'] at heq
        exact absurd heq.symm (hrowb k' hk')
      · rw [ea'] at heq
        exact absurd heq.symm (hrow9 k' j' ho' h2')
    · rw [ea] at heq
      rcases place k' j' hl' with ⟨rfl, rfl⟩ | ⟨hk', rfl, ea'⟩ | ⟨ho', h2', ea'⟩
      · rw [kadd_row] at heq
        exact absurd heq (hrowb k hk)
      · rw [ea'] at heq
        exact ⟨hbi k k' hk hk' heq, rfl⟩
      · rw [ea'] at heq
        exact absurd heq (hnew k hk k' j' ho')
    · rw [ea] at heq
      rcases place k' j' hl' with ⟨rfl, rfl⟩ | ⟨hk', rfl, ea'⟩ | ⟨ho', h2', ea'⟩
      · rw [kadd_row] at heq
        exact absurd heq (hrow9 k j ho h2)
      · rw [ea'] at heq
        exact absurd heq.symm (hnew k' hk' k j ho)
      · rw [ea'] at heq
        exact hw.2.1 k j k' j' ho ho' heq
  · have hne : i' ≠ i := fun h => by rw [h, hsz] at h0; omega
    rw [kadd_old ad b e' (fun h => hne h.2) (by rw [kow_lo i 2 (by decide)]; simp)]
    exact hw.2.2 i' hi' (by rw [← hc i' hi' hne]; exact h0)
/-- one more address -/
def kset (ad : Nat → Nat → Nat) (k0 j0 x : Nat) : Nat → Nat → Nat := fun k j => if k = k0 ∧ j = j0 then x else ad k j
theorem kW.alarm {ε : kEnv} {A : Nat → Prop} {ad : Nat → Nat → Nat} {σ : kS} {H : Heap} (x : Nat) (hw : kW ε A ad σ H) (hop : ∀ c, c < σ 2 0 → σ 25 c ≤ σ 4 0) : kW ε A (kset ad 9 (σ 4 0) x) σ H := by
  have o : ∀ k j : Nat, kLv σ k j → kset ad 9 (σ 4 0) x k j = ad k j := fun k j hl => if_neg (fun h => by
    obtain ⟨rfl, rfl⟩ := h
    exact Nat.lt_irrefl _ hl)
  have o9 : ∀ k j : Nat, k ≠ 9 → kset ad 9 (σ 4 0) x k j = ad k j := fun k j h => if_neg (fun q => h q.1)
  have key : ∀ k j, kLv σ k j → ∀ H a, kat ε a (kC ε ad σ k j) H → kat ε a (kC ε (kset ad 9 (σ 4 0) x) σ k j) H := by
    intro k j hl H a ha
    match k, hl, ha with
    | 0, hl, ha => simp only [kC, o9 1 _ (by decide)]; exact ha
    | 1, hl, ha => simp only [kC, o9 2 _ (by decide)]; exact ha
    | 2, hl, ha =>
      refine kO_ext (fun q hq => ?_) ha
      by_cases h : q < σ (j + 1) 0
      · rw [if_pos h, if_pos h]
        refine congrArg some (Eq.symm (if_neg (fun h9 => ?_)))
        have hj : j = 3 := by
          have h10 : ∀ j, j < 4 → kel j = 9 → j = 3 := by decide
          exact h10 j hl.1 h9.1
        subst hj
        exact absurd h (by rw [h9.2]; exact Nat.lt_irrefl _)
      · rw [if_neg h, if_neg h]
    | 3, hl, ha => exact ha
    | 4, hl, ha =>
      have q9 : kop (kset ad 9 (σ 4 0) x) (σ 25 j) = kop ad (σ 25 j) := by
        have h9 := hop j hl
        match hz : σ 25 j with
        | 0 => rfl
        | z + 1 => exact congrArg some (if_neg (fun h => by omega))
      simp only [kC, o9 5 _ (by decide), o9 6 _ (by decide), o9 7 _ (by decide), q9]
      exact ha
    | 5, hl, ha => exact ha
    | 6, hl, ha => exact ha
    | 7, hl, ha => exact ha
    | 8, hl, ha => exact ha
    | 9, hl, ha => exact ha
  refine ⟨fun k j hl => ?_, fun k j k' j' hl hl' h => ?_, fun i hi h0 => ?_⟩
  · rw [o k j hl]
    exact ⟨key k j hl H _ (hw.1 k j hl).1, (hw.1 k j hl).2⟩
  · rw [o k j hl, o k' j' hl'] at h
    exact hw.2.1 k j k' j' hl hl' h
  · rw [o9 2 i (by decide)]
    exact hw.2.2 i hi h0
section KINIT
variable {p : Program} {l : Launch} {e : Env} {R : Room} {s : State} {m : MethodId} {args : Array Value} {below : List Frame} {meth : Method} {c : Code} {H : Heap} {locs : List Loc} {cells slots pc : Nat} {cc : ByteArray} {ls : Array Slot} {own : String} {Q : State → Prop} {rest : List Value}
theorem kr_oinit (hx : p.tables.exec = Jvm.exec) (hb : c.code = cc) (hown : s.vm.findClass own = some m.cls) {idx : Nat} {a : Nat} (hlink : (Cond.methodLink own idx Lib.objectInit).before args s = true) (hinst : (Cond.instanceMethod Lib.objectInit).before args s = true) (hcode : (Cond.code Lib.objectInit ⟨#[0xb1]⟩ 1 none).before args s = true)
    (hsize : ls.size = c.maxLocals) (hd : decode cc pc = .ok (.invokespecial idx, 3)) (hframes : 1 ≤ R.frames) (hlocals : (rest.map fun v => v.category).sum + 12 ≤ R.locals)
    (kk : W p l e R s m args below meth c H locs cells slots Q (F0 m (pc + 3) ls rest)) : W p l e R s m args below meth c H locs cells slots Q (F0 m pc ls (.ref a :: rest)) :=
  W.objInit hx hb hown hlink hinst hcode (g := F0 m pc ls (.ref a :: rest)) rfl hsize rfl hd hframes (by show 2 * 0 + _ + 12 ≤ _; omega) kk
end KINIT
