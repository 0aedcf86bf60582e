/-! ===== add in the class's world ===== -/
theorem kLv_el {σ : kS} {i j : Nat} (hi : i < 4) (hj : j < σ (i + 1) 0) : kLv σ (kel i) j := by
  match i, hi, hj with
  | 0, _, hj => exact hj
  | 1, _, hj => exact hj
  | 2, _, hj => exact hj
  | 3, _, hj => exact hj
theorem kel_ne : ∀ i, i < 4 → kel i ≠ 1 ∧ kel i ≠ 2 := by decide
theorem kel_cl {ε : kEnv} {ad : Nat → Nat → Nat} {σ : kS} {a j : Nat} {H : Heap} : ∀ i, i < 4 → kat ε a (kC ε ad σ (kel i) j) H → kEl ε a H := by
  intro i hi h
  match i, hi, h with
  | 0, _, h => exact ⟨3, _, _, h, rfl, by decide⟩
  | 1, _, h => exact ⟨2, _, _, h, rfl, by decide⟩
  | 2, _, h => exact ⟨4, _, _, h, rfl, by decide⟩
  | 3, _, h => exact ⟨1, _, _, h, rfl, by decide⟩
section KADDW
variable {ε : kEnv} {A : Nat → Prop} {ad : Nat → Nat → Nat} {σ : kS} {H : Heap}
theorem kW.ls (hw : kW ε A ad σ H) {i : Nat} (hi : i < 4) : kLs ε (ad 1 i) (ad 2 i) (σ (i + 1) 0) (ad (kel i)) (nI (σ (i + 1) 0)) H := by
  refine ⟨hw.lv 1 i hi, ?_⟩
  rcases Nat.eq_zero_or_pos (σ (i + 1) 0) with h | h
  · exact Or.inl ⟨h, hw.2.2 i hi h⟩
  · exact Or.inr ⟨h, hw.lv 2 i ⟨hi, h⟩⟩
theorem kW.a2 (hw : kW ε A ad σ H) {i : Nat} (hi : i < 4) (hA : ∀ q, H.size ≤ q → A q) : ∀ q, kA2 (ad 1 i) (ad 2 i) H.size (σ (i + 1) 0) q → A q := fun q h =>
  h.elim (fun h => h ▸ (hw.1 1 i hi).2) (fun h => h.elim (fun h => h.2 ▸ (hw.1 2 i ⟨hi, h.1⟩).2) (hA q))
theorem kw_add (l : Launch) (hAb : ∀ q, A q → kHi ε q) (hw : kW ε A ad σ H) {i : Nat} (hi : i < 4) (hn : σ (i + 1) 0 ≤ 1000000) (hbz : ε.2.2.1 ≤ H.size) {x : Nat} (hx : kEl ε x H) (hxa : x ≠ ad 1 i) :
    kMi ε l yJx4a65c_add_9ea2d wsJx4a65c_add_9ea2d ({ frames := 6, cells := kgc (σ (i + 1) 0), slots := kgs (σ (i + 1) 0), locals := 185 }) [.ref (ad 1 i), .ref x] H (kA2 (ad 1 i) (ad 2 i) H.size (σ (i + 1) 0)) (kgc (σ (i + 1) 0)) (kgs (σ (i + 1) 0)) (fun r H' => r = 1 ∧ kAd ε (ad 1 i) (ad 2 i) (σ (i + 1) 0) x (ad (kel i)) H.size H') :=
  cc_add ε l (hw.ls hi) hn hbz (hAb _ (hw.1 1 i hi).2) hx hxa (fun h => hAb _ (hw.1 2 i ⟨hi, h⟩).2) (fun h he => absurd (hw.2.1 2 i 1 i ⟨hi, h⟩ hi he).1 (by decide))
    (fun j hj => kel_cl i hi (hw.lv (kel i) j (kLv_el hi hj))) (fun j hj he => (kel_ne i hi).1 (hw.2.1 (kel i) j 1 i (kLv_el hi hj) hi he).1)
end KADDW
section KTOPV
variable {p : Program} {l : Launch} {e : Env} {R : Room} {s : State} {m : MethodId} {args : Array Value} {below : List Frame} {meth : Method} {c : Code} {H : Heap} {locs : List Loc} {cells slots : Nat} {Q : State → Prop} {pc : Nat} {ls : Array Slot} {rest : List Value}
theorem kr_topV {x y : Value} (h : x = y) (k : W p l e R s m args below meth c H locs cells slots Q (F0 m pc ls (y :: rest))) : W p l e R s m args below meth c H locs cells slots Q (F0 m pc ls (x :: rest)) := by
  subst h
  exact k
theorem kr_room {c1 s1 : Nat} {g : JFrame} (hc : cells = c1) (hs : slots = s1) (k : W p l e R s m args below meth c H locs c1 s1 Q g) : W p l e R s m args below meth c H locs cells slots Q g := by
  subst hc
  subst hs
  exact k
end KTOPV
theorem kTc_mono {a b : Nat} (h : a ≤ b) : kTc a ≤ kTc b := by
  induction b with
  | zero => rw [Nat.le_zero.mp h]; exact Nat.le_refl _
  | succ b ih =>
    rcases Nat.lt_or_ge a (b + 1) with h1 | h1
    · have := ih (by omega)
      show kTc a ≤ kTc b + _
      omega
    · rw [show a = b + 1 by omega]; exact Nat.le_refl _
theorem kTs_mono {a b : Nat} (h : a ≤ b) : kTs a ≤ kTs b := by
  induction b with
  | zero => rw [Nat.le_zero.mp h]; exact Nat.le_refl _
  | succ b ih =>
    rcases Nat.lt_or_ge a (b + 1) with h1 | h1
    · have := ih (by omega)
      show kTs a ≤ kTs b + _
      omega
    · rw [show a = b + 1 by omega]; exact Nat.le_refl _
theorem kRaise_lv {σ : kS} {c k j v : Nat} : kLv (ku σ 25 c v) k j ↔ kLv σ k j := kLv_ag (fun i hi => ku_f _ _ _ _ (by omega)) k j
theorem kop_nar (ad : Nat → Nat → Nat) (v : Nat) : narrow (.object "Probeweb$Alarm") (va_rf (kop ad v)) = va_rf (kop ad v) := by cases v <;> rfl
theorem kop_fit (ad : Nat → Nat → Nat) (v : Nat) : fits (.object "Probeweb$Alarm") (va_rf (kop ad v)) = true := by cases v <;> rfl
