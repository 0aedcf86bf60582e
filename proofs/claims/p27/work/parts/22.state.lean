/-! ===== the state as one function: field, number, value; and what a call does to it ===== -/
/- fields: 0 minute, 1 regions, 2 checks, 3 windows, 4 alarms (at 0); of a region: 10 parent + 1, 11 path, 12 probes, 13 failures; 14 cut, 15 bad (sets, at 0); of a check: 20 interval, 21 offset, 22 repetitions, 23 quorum, 24 verdict, 25 open alarm + 1, 26 minutes up, 27 minutes counted, 30 down (a set); of a pair, at 6 c + r: 31 vote, 32 planned, 33 planned for; of a window: 40 check, 41 first, 42 last; of an alarm: 50 check, 51 raised, 52 closed + 1 -/
abbrev kS : Type := Nat → Nat → Nat
def ku (σ : kS) (f i v : Nat) : kS := fun g j => if g = f ∧ j = i then v else σ g j
theorem ku_s (σ : kS) (f i v : Nat) : ku σ f i v f i = v := by simp [ku]
theorem ku_f (σ : kS) {f g : Nat} (i j v : Nat) (h : g ≠ f) : ku σ f i v g j = σ g j := by simp [ku, h]
theorem ku_i (σ : kS) (f g : Nat) {i j : Nat} (v : Nat) (h : j ≠ i) : ku σ f i v g j = σ g j := by simp [ku, h]
theorem ku_e (σ : kS) (f i v j : Nat) : ku σ f i v f j = if j = i then v else σ f j := by simp [ku]
/-- -1 for none -/
def mI : Nat → Int32
  | 0 => -1
  | n + 1 => nI n
def bI (b : Bool) : Int32 := if b then 1 else 0
theorem bI_01 (b : Bool) : bI b = 0 ∨ bI b = 1 := by cases b <;> simp [bI]
theorem bI_nar (b : Bool) : vp_nar .boolean (bI b) = bI b := by cases b <;> rfl
theorem bI_eq0 {b : Bool} : bI b = 0 ↔ b = false := by cases b <;> simp [bI]
theorem bI_ne0 {b : Bool} : ¬ bI b = 0 ↔ b = true := by cases b <;> simp [bI]
/-- sets of regions -/
def kwr (m r : Nat) (b : Bool) : Nat := if b then m ||| 2 ^ r else m &&& (63 ^^^ 2 ^ r)
theorem kwr_lt : ∀ r, r < 6 → ∀ m, m < 64 → ∀ b : Bool, kwr m r b < 64 := by decide +kernel
theorem kwr_bit : ∀ r, r < 6 → ∀ m, m < 64 → ∀ b : Bool, ∀ j, j < 6 → (kwr m r b).testBit j = if j = r then b else m.testBit j := by decide +kernel
theorem kb_or : ∀ r, r < 6 → ∀ m, m < 64 → nI m ||| ((1 : Int32) <<< (nI r &&& 31)) = nI (m ||| 2 ^ r) := by decide +kernel
theorem kb_and : ∀ r, r < 6 → ∀ m, m < 64 → nI m &&& (((1 : Int32) <<< (nI r &&& 31)) ^^^ (-1)) = nI (m &&& (63 ^^^ 2 ^ r)) := by decide +kernel
theorem kb_has : ∀ r, r < 6 → ∀ m, m < 64 → (nI m &&& ((1 : Int32) <<< (nI r &&& 31)) = 0 ↔ m.testBit r = false) := by decide +kernel
theorem kb_meet : ∀ m, m < 64 → ∀ n, n < 64 → (nI m &&& nI n = 0 ↔ (m &&& n) = 0) := by decide +kernel
def kcnt (p : Nat → Bool) : Nat → Nat
  | 0 => 0
  | n + 1 => kcnt p n + (if p n then 1 else 0)
theorem kcnt_le (p : Nat → Bool) (n : Nat) : kcnt p n ≤ n := by
  induction n with
  | zero => exact Nat.le_refl _
  | succ n ih => simp only [kcnt]; split <;> omega
theorem kcnt_congr {p q : Nat → Bool} {n : Nat} (h : ∀ i, i < n → p i = q i) : kcnt p n = kcnt q n := by
  induction n with
  | zero => rfl
  | succ n ih => simp only [kcnt, ih (fun i hi => h i (by omega)), h n (by omega)]
/-- an ArrayList's row: how long it is when n elements lie in it -/
def kcap : Nat → Nat
  | 0 => 0
  | n + 1 => if n < kcap n then kcap n else if n = 0 then 10 else n + n / 2
def kgc (n : Nat) : Nat := if n < kcap n then 0 else 1
def kgs (n : Nat) : Nat := if n < kcap n then 0 else kcap (n + 1)
theorem kcap_ge (n : Nat) : n ≤ kcap n := by
  induction n with
  | zero => exact Nat.le_refl _
  | succ n ih =>
    simp only [kcap]
    split
    · omega
    · split
      · omega
      · have h1 : kcap n = n := by omega
        have h10 : 10 ≤ n := by
          rcases Nat.lt_or_ge n 10 with h | h
          · have h2 : ∀ n, n < 10 → n ≠ 0 → kcap n = 10 := by decide +kernel
            have := h2 n h (by assumption)
            omega
          · exact h
        omega
theorem kcap_full {n : Nat} (h : ¬ n < kcap n) (h0 : n ≠ 0) : kcap n = n ∧ 10 ≤ n := by
  have h1 := kcap_ge n
  refine ⟨by omega, ?_⟩
  rcases Nat.lt_or_ge n 10 with h3 | h3
  · have h2 : ∀ n, n < 10 → n ≠ 0 → kcap n = 10 := by decide +kernel
    have := h2 n h3 h0
    omega
  · exact h3
theorem kcap_up (n : Nat) : kcap n ≤ n + n / 2 + 10 := by
  induction n with
  | zero => decide
  | succ n ih =>
    simp only [kcap]
    split
    · omega
    · split <;> omega
/-- where the elements of the four lists lie: regions, checks, windows, alarms -/
def kel (i : Nat) : Nat := match i with
  | 0 => 3
  | 1 => 4
  | 2 => 8
  | _ => 9
def kop (ad : Nat → Nat → Nat) : Nat → Option Nat
  | 0 => none
  | j + 1 => some (ad 9 j)
/-- what the cell of a kind and a number holds: 0 the mesh, 1 the lists, 2 their rows, 3 regions, 4 checks, 5 6 7 their rows, 8 windows, 9 alarms -/
def kC (ε : kEnv) (ad : Nat → Nat → Nat) (σ : kS) (k i : Nat) : va_E := match k with
  | 0 => .inr (5, [.ref (ad 1 0), .ref (ad 1 1), .ref (ad 1 2), .ref (ad 1 3), .int (nI (σ 14 0)), .int (nI (σ 15 0)), .int (nI (σ 0 0))])
  | 1 => .inr (0, [.int (nI (σ (i + 1) 0)), .ref (ad 2 i), .int (nI (σ (i + 1) 0))])
  | 2 => kO ε (kcap (σ (i + 1) 0)) (fun j => if j < σ (i + 1) 0 then some (ad (kel i) j) else none)
  | 3 => .inr (3, [.int (nI i), .int (nI (σ 11 i)), .int (nI (σ 12 i)), .int (nI (σ 13 i))])
  | 4 => .inr (2, [.int (nI i), .int (nI (σ 20 i)), .int (nI (σ 21 i)), .int (nI (σ 22 i)), .int (nI (σ 23 i)), .int (nI (σ 30 i)), .ref (ad 5 i), .ref (ad 6 i), .ref (ad 7 i), .int (nI (σ 24 i)), va_rf (kop ad (σ 25 i)), .int (nI (σ 26 i)), .int (nI (σ 27 i))])
  | 5 => kI ε 6 (fun r => nI (σ 31 (6 * i + r)))
  | 6 => kI ε 6 (fun r => nI (σ 32 (6 * i + r)))
  | 7 => kI ε 6 (fun r => nI (σ 33 (6 * i + r)))
  | 8 => .inr (4, [.int (nI (σ 40 i)), .int (nI (σ 41 i)), .int (nI (σ 42 i))])
  | _ => .inr (1, [.int (nI (σ 50 i)), .int (nI (σ 51 i)), .int (mI (σ 52 i))])
def kLv (σ : kS) (k i : Nat) : Prop := match k with
  | 0 => i = 0
  | 1 => i < 4
  | 2 => i < 4 ∧ 0 < σ (i + 1) 0
  | 3 => i < σ 1 0
  | 4 => i < σ 2 0
  | 5 => i < σ 2 0
  | 6 => i < σ 2 0
  | 7 => i < σ 2 0
  | 8 => i < σ 3 0
  | 9 => i < σ 4 0
  | _ => False
/-- the class's world in the heap -/
def kW (ε : kEnv) (A : Nat → Prop) (ad : Nat → Nat → Nat) (σ : kS) (H : Heap) : Prop :=
  (∀ k i, kLv σ k i → kat ε (ad k i) (kC ε ad σ k i) H ∧ A (ad k i)) ∧ (∀ k i k' i', kLv σ k i → kLv σ k' i' → ad k i = ad k' i' → k = k' ∧ i = i') ∧ ∀ i, i < 4 → σ (i + 1) 0 = 0 → ad 2 i = kz ε
theorem kW.lv {ε : kEnv} {A : Nat → Prop} {ad : Nat → Nat → Nat} {σ : kS} {H : Heap} (h : kW ε A ad σ H) (k i : Nat) (hi : kLv σ k i) : kat ε (ad k i) (kC ε ad σ k i) H := (h.1 k i hi).1
theorem kW.keep {ε : kEnv} {A : Nat → Prop} {ad : Nat → Nat → Nat} {σ : kS} {H H1 : Heap} (h : kW ε A ad σ H) (hq : ∀ k i, kLv σ k i → H1[ad k i]? = H[ad k i]?) : kW ε A ad σ H1 :=
  ⟨fun k i hi => ⟨va_at.kept (h.1 k i hi).1 (hq k i hi), (h.1 k i hi).2⟩, h.2.1, h.2.2⟩
theorem kW.new {ε : kEnv} {A : Nat → Prop} {ad : Nat → Nat → Nat} {σ : kS} {H H1 : Heap} (h : kW ε A ad σ H) (hN : kN H H1) : kW ε A ad σ H1 :=
  h.keep fun k i hi => hN.2 _ (va_at.lt (h.1 k i hi).1)
/-- the bounds -/
def kB (σ : kS) : Prop :=
  σ 0 0 ≤ 102400 ∧ σ 1 0 ≤ 6 ∧ σ 2 0 ≤ 8 ∧ σ 3 0 ≤ 12 ∧ σ 4 0 ≤ 51000 ∧ σ 14 0 < 64 ∧ σ 15 0 < 64 ∧
  (∀ r, r < σ 1 0 → σ 11 r < 64 ∧ σ 10 r ≤ r) ∧
  (∀ c, c < σ 2 0 → (1 ≤ σ 20 c ∧ σ 20 c ≤ 60) ∧ σ 21 c ≤ 1000 ∧ σ 22 c ≤ 3 ∧ (1 ≤ σ 23 c ∧ σ 23 c ≤ 6) ∧ σ 24 c ≤ 2 ∧ σ 30 c < 64 ∧ σ 25 c ≤ σ 4 0) ∧
  (∀ c r, c < σ 2 0 → r < 6 → σ 31 (6 * c + r) ≤ 2 ∧ σ 32 (6 * c + r) ≤ 3 ∧ σ 33 (6 * c + r) ≤ 200000) ∧
  (∀ w, w < σ 3 0 → σ 40 w < 8 ∧ σ 41 w ≤ 100000 ∧ σ 42 w ≤ 120000) ∧
  (∀ j, j < σ 4 0 → σ 50 j < 8 ∧ σ 51 j ≤ 102400 ∧ σ 52 j ≤ 102401)
/-- what a call does -/
def kfail (σ : kS) (c r : Nat) : Bool := (σ 30 c).testBit r || (σ 11 r &&& σ 14 0) != 0
def kNext (σ : kS) (c r m : Nat) : Nat :=
  if σ 32 (6 * c + r) ≠ 0 then σ 33 (6 * c + r) else
  if m ≤ σ 21 c + r then σ 21 c + r else
  if (m - (σ 21 c + r)) % σ 20 c = 0 then m else m + σ 20 c - (m - (σ 21 c + r)) % σ 20 c
def kTakeS (σ : kS) (c r : Nat) : kS := ku (ku σ 32 (6 * c + r) 0) 31 (6 * c + r) 1
def kTakeF (σ : kS) (c r m : Nat) : kS :=
  if σ 31 (6 * c + r) = 2 then ku σ 32 (6 * c + r) 0 else
  if σ 22 c < σ 32 (6 * c + r) + 1 then ku (ku σ 32 (6 * c + r) 0) 31 (6 * c + r) 2 else
  ku (ku (ku σ 32 (6 * c + r) 0) 32 (6 * c + r) (σ 32 (6 * c + r) + 1)) 33 (6 * c + r) (m + 1 + (3 * c + 5 * r + 7 * (σ 32 (6 * c + r) + 1)) % 4)
def kMake (σ : kS) (c r : Nat) : kS :=
  if kfail σ c r then kTakeF (ku (ku σ 12 r (σ 12 r + 1)) 13 r (σ 13 r + 1)) c r (σ 0 0) else kTakeS (ku σ 12 r (σ 12 r + 1)) c r
def kPrb (σ : kS) (c r : Nat) : kS := if kNext σ c r (σ 0 0) = σ 0 0 then kMake σ c r else σ
def kFor (f : Nat → kS → kS) : Nat → kS → kS
  | 0, σ => σ
  | n + 1, σ => f n (kFor f n σ)
def kPrbs (σ : kS) : kS := kFor (fun c τ => kFor (fun r ρ => kPrb ρ c r) (σ 1 0) τ) (σ 2 0) σ
def kBadv (σ : kS) (r : Nat) : Bool := decide (2 ≤ kcnt (fun c => σ 31 (6 * c + r) != 0) (σ 2 0)) && decide (kcnt (fun c => σ 31 (6 * c + r) != 0) (σ 2 0) < 2 * kcnt (fun c => σ 31 (6 * c + r) == 2) (σ 2 0))
def kJR (σ : kS) : kS := kFor (fun r τ => ku τ 15 0 (kwr (τ 15 0) r (kBadv τ r))) (σ 1 0) σ
def kTrb (σ : kS) (c r : Nat) : Bool := σ 31 (6 * c + r) != 0 && (σ 11 r &&& σ 15 0) == 0
def kTrm (σ : kS) (c : Nat) : Nat → Nat
  | 0 => 0
  | n + 1 => kwr (kTrm σ c n) n (kTrb σ c n)
def kVd (q t : Nat) (v : Nat → Nat) : Nat :=
  if kcnt (fun r => t.testBit r) 6 < q then 0 else if q ≤ kcnt (fun r => t.testBit r && v r == 2) 6 then 2 else 1
def kVerd (σ : kS) (c : Nat) : Nat := kVd (σ 23 c) (kTrm σ c (σ 1 0)) (fun r => σ 31 (6 * c + r))
def kJC (σ : kS) : kS := kFor (fun c τ => ku τ 24 c (kVerd τ c)) (σ 2 0) σ
def kMnt (σ : kS) (c : Nat) : Nat → Bool
  | 0 => false
  | n + 1 => kMnt σ c n || (σ 40 n == c && decide (σ 41 n ≤ σ 0 0) && decide (σ 0 0 ≤ σ 42 n))
def kRaise (σ : kS) (c : Nat) : kS := ku (ku (ku (ku (ku σ 50 (σ 4 0) c) 51 (σ 4 0) (σ 0 0)) 52 (σ 4 0) 0) 25 c (σ 4 0 + 1)) 4 0 (σ 4 0 + 1)
def kClose (σ : kS) (c : Nat) : kS := ku (ku σ 52 (σ 25 c - 1) (σ 0 0 + 1)) 25 c 0
def kAl (σ : kS) (c : Nat) : kS :=
  if σ 24 c = 2 ∧ σ 25 c = 0 ∧ kMnt σ c (σ 3 0) = false then kRaise σ c else if σ 24 c = 1 ∧ σ 25 c ≠ 0 then kClose σ c else σ
def kAls (σ : kS) : kS := kFor (fun c τ => kAl τ c) (σ 2 0) σ
def kCt1 (σ : kS) (c : Nat) : kS := if σ 24 c ≠ 0 then ku σ 27 c (σ 27 c + 1) else σ
def kCt2 (σ : kS) (c : Nat) : kS := if σ 24 c = 1 then ku σ 26 c (σ 26 c + 1) else σ
def kCts (σ : kS) : kS := kFor (fun c τ => kCt2 (kCt1 τ c) c) (σ 2 0) σ
def kMin (σ : kS) : kS := ku σ 0 0 (σ 0 0 + 1)
def kPass1 (σ : kS) : kS := kCts (kAls (kJC (kJR (kPrbs (kMin σ)))))
def kPass : Nat → kS → kS
  | 0, σ => σ
  | n + 1, σ => kPass1 (kPass n σ)
/-- cells and slots that the first n alarms of a mesh have cost -/
def kTc : Nat → Nat
  | 0 => 0
  | n + 1 => kTc n + (1 + kgc n)
def kTs : Nat → Nat
  | 0 => 0
  | n + 1 => kTs n + (3 + kgs n)
