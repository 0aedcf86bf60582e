/-! ===== an ArrayList's cells ===== -/
def kNw (n : Nat) : Nat → Prop := fun q => n ≤ q
def kA1 (a n : Nat) : Nat → Prop := fun q => q = a ∨ n ≤ q
def kA2 (a e n k : Nat) : Nat → Prop := fun q => q = a ∨ (0 < k ∧ q = e) ∨ n ≤ q
/-- an element's class may lie in the row -/
def kEl (ε : kEnv) (y : Nat) (H : Heap) : Prop := ∃ (ci : Nat) (fs : List Value) (r : vw_C), kat ε y (.inr (ci, fs)) H ∧ vwCl[ci]? = some r ∧ (r.1, "java/lang/Object") ∈ kNC
theorem kEl.any {ε : kEnv} {s : State} {y : Nat} {H : Heap} (h : kEl ε y H) (hE : kE ε s) : va_Any "java/lang/Object" s H y := by
  obtain ⟨ci, fs, r, h1, h2, h3⟩ := h
  exact kany hE h1 h2 h3
theorem kEl.kept {ε : kEnv} {y : Nat} {H H1 : Heap} (h : kEl ε y H) (hq : H1[y]? = H[y]?) : kEl ε y H1 := by
  obtain ⟨ci, fs, r, h1, h2, h3⟩ := h
  exact ⟨ci, fs, r, va_at.kept h1 hq, h2, h3⟩
theorem kEl.lt {ε : kEnv} {y : Nat} {H : Heap} (h : kEl ε y H) : y < H.size := by
  obtain ⟨ci, fs, r, h1, h2, h3⟩ := h
  exact va_at.lt h1
theorem kcap_next {n : Nat} (h : ¬ n < kcap n) (h0 : n ≠ 0) : kcap (n + 1) = n + n / 2 := by
  show (if n < kcap n then kcap n else if n = 0 then 10 else n + n / 2) = _
  rw [if_neg h, if_neg h0]
theorem kcap_same {n : Nat} (h : n < kcap n) : kcap (n + 1) = kcap n := by
  show (if n < kcap n then kcap n else if n = 0 then 10 else n + n / 2) = _
  rw [if_pos h]
/-- the list's cell and its row -/
def kLs (ε : kEnv) (a e n : Nat) (g : Nat → Nat) (u : Int32) (H : Heap) : Prop :=
  kat ε a (.inr (0, [.int u, .ref e, .int (nI n)])) H ∧ ((n = 0 ∧ e = kz ε) ∨ (0 < n ∧ kat ε e (kO ε (kcap n) (fun j => if j < n then some (g j) else none)) H))
theorem kLs.full {ε : kEnv} {a e n : Nat} {g : Nat → Nat} {u : Int32} {H : Heap} (h : kLs ε a e n g u H) (h0 : n ≠ 0) : kat ε e (kO ε (kcap n) (fun j => if j < n then some (g j) else none)) H :=
  h.2.elim (fun q => absurd q.1 h0) (fun q => q.2)
def kAd (ε : kEnv) (a e n x : Nat) (g : Nat → Nat) (sz : Nat) (H : Heap) : Prop :=
  ∃ e' : Nat, e' = (if n < kcap n then e else sz) ∧ kat ε a (.inr (0, [.int (nI (n + 1)), .ref e', .int (nI (n + 1))])) H ∧ kat ε e' (kO ε (kcap (n + 1)) (fun j => if j = n then some x else if j < n then some (g j) else none)) H
section KEND2
variable {p : Program} {l : Launch} {e : Env} {R : Room} {s : State} {m : MethodId} {args : Array Value} {below : List Frame} {meth : Method} {c : Code} {H : Heap} {locs : List Loc} {cells slots ms nL pc : Nat} {cc : ByteArray} {ls : Array Slot} {A : Nat → Prop} {Ts : List Cond} {own : String}
theorem kend_r2 {post : Nat → Heap → Prop} {v : Nat} {rt : FieldType} (es : slots = ms) (S : CallFix p m c cc nL s args Ts own) (hr : meth.sig.returnType = some rt) (hrt : (∃ n, rt = .object n) ∨ ∃ t, rt = .array t) (hlocks : meth.locks = false) (hS : va_S A s.heap H locs) (hp : post v H) (hdg : decode cc pc = .ok (.areturn, 1)) : W p l e R s m args below meth c H locs cells slots (MQ below (kQr post A) args s cells ms A) (F0 m pc ls [.ref v]) := by
  subst es
  exact kend_r S hr hrt hlocks hS hp hdg
end KEND2
