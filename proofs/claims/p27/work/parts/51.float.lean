/-! ===== contracts with a float answer ===== -/
abbrev kQf (post : UInt32 → Heap → Prop) (A : Nat → Prop) := va_Qf post (fun (H' : Heap) (t : State) => t.heap = H') A
abbrev kPf (ε : kEnv) (l : Launch) (y : MethodName) (ws : List Cond) (rm : Room) (av : List Value) (H : Heap) (v : UInt32) : Prop := Met l y ws rm (va_Pc av (kPre ε H)) (kQf (fun r H' => r = v ∧ H' = H) kNo) 0 0 kNo
abbrev kMf (ε : kEnv) (l : Launch) (y : MethodName) (ws : List Cond) (rm : Room) (av : List Value) (H : Heap) (A : Nat → Prop) (mc ms : Nat) (post : UInt32 → Heap → Prop) : Prop := Met l y ws rm (va_Pc av (kPre ε H)) (kQf post A) mc ms A
section KFL
variable {p : Program} {l : Launch} {e : Env} {R : Room} {s : State} {m : MethodId} {args : Array Value} {below : List Frame} {meth : Method} {c : Code} {H : Heap} {locs : List Loc} {cells slots : Nat} {Q : State → Prop}
variable {cc : ByteArray} {pc : Nat} {ls : Array Slot} {rest st0 : List Value} {A A1 : Nat → Prop} {H0 : Heap} {own : String} {Ts : List Cond} {nL mc ms : Nat} {a : Array Value}
theorem kgo_f {post : UInt32 → Heap → Prop} (hr : va_Run p l e R s m args below meth c H locs cells slots mc ms (F0 m pc ls st0) rest (kQf post A1 a) A1) (hS : va_S A H0 H locs) (hA : ∀ q, A1 q → A q)
    (kk : ∀ (r : UInt32) (H1 : Heap) (locs1 : List Loc), post r H1 → H.size ≤ H1.size → (∀ q : Nat, q < H.size → ¬ A1 q → H1[q]? = H[q]?) → va_S A H0 H1 locs1 → W p l e R s m args below meth c H1 locs1 (cells + mc) (slots + ms) Q (F0 m (pc + 3) ls (.float r :: rest))) : W p l e R s m args below meth c H locs cells slots Q (F0 m pc ls st0) :=
  va_callf hr hS (fun q _ h => hA q h) hA (fun r u t H1 locs1 ht _ hp hB h1 h2 h3 => by
    have hu : u = H1 := hB.symm.trans ht
    subst hu
    exact kk r u locs1 hp h1 h2 h3)
theorem kend_f {post : UInt32 → Heap → Prop} {v : UInt32} (S : CallFix p m c cc nL s args Ts own) (hr : meth.sig.returnType = some .float) (hlocks : meth.locks = false) (hS : va_S A s.heap H locs) (hp : post v H) (hdg : decode cc pc = .ok (.freturn, 1)) : W p l e R s m args below meth c H locs cells slots (MQ below (kQf post A) args s cells slots A) (F0 m pc ls [.float v]) :=
  W.fret S.1 S.2.1 hr (fun t ht _ => ⟨⟨v, H, rfl, hp, ht⟩, hS.F ht⟩) hS.2.2 hdg hlocks
variable {ε : kEnv}
theorem kgo_pf {A : Nat → Prop} {H0 : Heap} {st0 : List Value} {a : Array Value} {v : UInt32} (hr : va_Run p l e R s m args below meth c H locs cells slots 0 0 (F0 m pc ls st0) rest (kQf (fun r H' => r = v ∧ H' = H) kNo a) kNo) (hS : va_S A H0 H locs)
    (kk : ∀ locs1 : List Loc, va_S A H0 H locs1 → W p l e R s m args below meth c H locs1 cells slots Q (F0 m (pc + 3) ls (.float v :: rest))) : W p l e R s m args below meth c H locs cells slots Q (F0 m pc ls st0) :=
  kgo_f hr hS (fun _ h => h.elim) (fun r H1 locs1 hp _ _ h3 => by
    obtain ⟨hp1, hp2⟩ := hp
    subst hp1
    subst hp2
    exact kk locs1 h3)
end KFL
