/-! ===== what every method of this claim stands in, contracts over a heap that has a name, calls, throws ===== -/
def kNC : List (String × String) := [("java/lang/IllegalArgumentException", "java/lang/IllegalArgumentException"), ("java/lang/IllegalStateException", "java/lang/IllegalStateException"), ("java/lang/IndexOutOfBoundsException", "java/lang/IndexOutOfBoundsException"), (RX0, "java/lang/Object"), (RX1, "java/lang/Object"), (RX2, "java/lang/Object"), (RX3, "java/lang/Object")]
def kNN : List (String × String) := [("java/lang/IllegalArgumentException", "java/lang/IllegalStateException"), ("java/lang/IllegalArgumentException", "java/lang/IndexOutOfBoundsException"), ("java/lang/IllegalStateException", "java/lang/IllegalArgumentException"), ("java/lang/IllegalStateException", "java/lang/IndexOutOfBoundsException"), ("java/lang/IndexOutOfBoundsException", "java/lang/IllegalArgumentException"), ("java/lang/IndexOutOfBoundsException", "java/lang/IllegalStateException")]
def kND : List MethodName := [Bundle.initS "java/lang/Exception", Bundle.initS "java/lang/RuntimeException", Bundle.initS "java/lang/Throwable", ⟨"java/lang/Object", "getClass", "()Ljava/lang/Class;"⟩]
def kNM : List (String × Nat × MethodName × String) := [(RX1, 41, yX4_holds, RX4), (RX2, 13, yX4_withRegion, RX4)]
def kSt : List (Nat × String) := [(45, "there are 6 regions"), (70, "there are 8 checks"), (95, "there have been 12 windows"), (103, "no such window"), (164, "the check has not been counted yet"), (169, "no such region"), (171, "no such check"), (173, "no such alarm"), (177, "an argument is out of range")]
abbrev kHi (ε : kEnv) : Nat → Prop := fun q => ε.2.2.1 ≤ q
abbrev kz (ε : kEnv) : Nat := ε.2.2.2.1
abbrev ks (ε : kEnv) : Nat → Nat := ε.2.2.2.2
def kE (ε : kEnv) (U : State) : Prop :=
  va_K ε.1 vwCl (kTy ε.2.1) U ∧ (∀ q ∈ kNC, va_Nw (.castable q.1 q.2) U) ∧ (∀ q ∈ kNN, va_Nc q.1 q.2 U) ∧ (∀ q ∈ kND, va_Nw (.declares q) U) ∧ (∀ q ∈ kNM, va_Nw (.methodLinkNest q.1 q.2.1 q.2.2.1 q.2.2.2) U) ∧
  vx_Zq Bundle.tN "UNASSIGNED_STACK" Bundle.steD (kHi ε) U U.heap ∧ vx_Zq Bundle.tN "SUPPRESSED_SENTINEL" Bundle.listD (kHi ε) U U.heap ∧
  va_Z "java/util/ArrayList" "DEFAULTCAPACITY_EMPTY_ELEMENTDATA" "[Ljava/lang/Object;" (.ref (kz ε)) (kHi ε) U U.heap ∧ va_T (.object "java/lang/Object") (kz ε) 0 (fun _ => .null) (kHi ε) U U.heap ∧
  (∀ (k : Nat) (q : Nat × String), kSt[k]? = some q → vk_R RX4 q.1 q.2 (ks ε k) U) ∧ va_Mi "[Ljava/lang/Object;" (ks ε 9) U ∧ va_AO "java/lang/Object" U
theorem kE.go {ε : kEnv} {s U : State} (hW : s.WarmedH U.vm) (hq : ∀ a : Nat, a < s.heap.size → ¬ kHi ε a → U.heap[a]? = s.heap[a]?) (h : kE ε s) : kE ε U := by
  obtain ⟨h1, h2, h3, h4, h5, h6, h7, h8, h9, h10, h11, h12⟩ := h
  exact ⟨va_K.moved hW.alike h1, fun q hq => va_Nw.warmC hW (h2 q hq), fun q hq => va_Nc.moved hW.alike (h3 q hq), fun q hq => va_Nw.warmD hW (h4 q hq), fun q hq => va_Nw.warmM hW (h5 q hq),
    vx_Zq.moved hW.alike (h6.kept hq), vx_Zq.moved hW.alike (h7.kept hq), va_Z.moved hW.alike (h8.kept hq), va_T.moved hW.alike (h9.kept hq), fun k q hk => vk_R.warm hW (h10 k q hk), va_Mi.moved hW.alike h11, va_AO.moved hW.alike h12⟩
/-- a method's start: the heap has a name, the environment stands -/
abbrev kPre (ε : kEnv) (H : Heap) : State → Prop := fun U => U.heap = H ∧ kE ε U
theorem kBl {ε : kEnv} {H : Heap} {av : List Value} : FrameBlind (va_Pc av (kPre ε H)) := fun _ U _ _ q => ⟨q.1, q.2.1, kE.go (s := U) (State.WarmedH.refl U) (fun _ _ _ => rfl) q.2.2⟩
abbrev kQi (post : Int32 → Heap → Prop) (A : Nat → Prop) := va_Qi post (fun (H' : Heap) (t : State) => t.heap = H') A
abbrev kQv (post : Heap → Prop) (A : Nat → Prop) := va_Qv post (fun (H' : Heap) (t : State) => t.heap = H') A
abbrev kQr (post : Nat → Heap → Prop) (A : Nat → Prop) := va_Qr (fun u : Nat × Heap => post u.1 u.2) (fun (u : Nat × Heap) (a : Nat) (t : State) => a = u.1 ∧ t.heap = u.2) A
abbrev kNo : Nat → Prop := fun _ => False
/-- what only reads: an int, nothing, a reference -/
abbrev kPi (ε : kEnv) (l : Launch) (y : MethodName) (ws : List Cond) (rm : Room) (av : List Value) (H : Heap) (v : Int32) : Prop := Met l y ws rm (va_Pc av (kPre ε H)) (kQi (fun r H' => r = v ∧ H' = H) kNo) 0 0 kNo
abbrev kPv (ε : kEnv) (l : Launch) (y : MethodName) (ws : List Cond) (rm : Room) (av : List Value) (H : Heap) : Prop := Met l y ws rm (va_Pc av (kPre ε H)) (kQv (fun H' => H' = H) kNo) 0 0 kNo
abbrev kPr (ε : kEnv) (l : Launch) (y : MethodName) (ws : List Cond) (rm : Room) (av : List Value) (H : Heap) (v : Nat) : Prop := Met l y ws rm (va_Pc av (kPre ε H)) (kQr (fun r H' => r = v ∧ H' = H) kNo) 0 0 kNo
/-- what writes, and may make mc cells of ms slots -/
abbrev kMi (ε : kEnv) (l : Launch) (y : MethodName) (ws : List Cond) (rm : Room) (av : List Value) (H : Heap) (A : Nat → Prop) (mc ms : Nat) (post : Int32 → Heap → Prop) : Prop := Met l y ws rm (va_Pc av (kPre ε H)) (kQi post A) mc ms A
abbrev kMv (ε : kEnv) (l : Launch) (y : MethodName) (ws : List Cond) (rm : Room) (av : List Value) (H : Heap) (A : Nat → Prop) (mc ms : Nat) (post : Heap → Prop) : Prop := Met l y ws rm (va_Pc av (kPre ε H)) (kQv post A) mc ms A
abbrev kMr (ε : kEnv) (l : Launch) (y : MethodName) (ws : List Cond) (rm : Room) (av : List Value) (H : Heap) (A : Nat → Prop) (mc ms : Nat) (post : Nat → Heap → Prop) : Prop := Met l y ws rm (va_Pc av (kPre ε H)) (kQr post A) mc ms A
/-- what throws, whatever else: the old cells stay -/
def kXC (E : String) (H : Heap) : String → State → State → Prop := fun E' _ t => E' = E ∧ H.size ≤ t.heap.size ∧ ∀ q : Nat, q < H.size → t.heap[q]? = H[q]?
abbrev kQno : Array Value → State → Outcome → State → Prop := fun _ _ _ _ => False
abbrev kX (ε : kEnv) (l : Launch) (y : MethodName) (ws : List Cond) (rm : Room) (av : List Value) (H : Heap) (E : String) : Prop := vx_Met l y ws rm (va_Pc av (kPre ε H)) kQno (kXC E H) 1 6 kNo
section KOF
variable {l : Launch} {ε : kEnv}
theorem kof {y : MethodName} {ws ws' : List Cond} {rm : Room} {av : List Value} {H : Heap} {Qc : Array Value → State → Outcome → State → Prop} {mc ms : Nat} {free : Addr → Prop} {cc : ByteArray} {maxL : Nat} {ret : Option FieldType}
    (hy : plainName y.cls = true) (hw : ws = Cond.code y cc maxL ret :: ws') (hlen : (lg_sl av).length ≤ maxL)
    (body : ∀ p e s m below meth c ls, CallFix p m c cc maxL s av.toArray ws y.cls → meth.sig.returnType = ret → meth.locks = false → meth.name = y.name → s.heap = H → kE ε s → lv_has ls maxL (lv_args 0 av) →
      W p l e rm s m av.toArray below meth c H [] 0 0 (MQ below Qc av.toArray s mc ms free) (F0 m 0 ls [])) : Met l y ws rm (va_Pc av (kPre ε H)) Qc mc ms free := by
  refine Met.ofW hy hw ?_
  intro p e s m args below meth c s₁ B hml hv
  obtain ⟨rfl, hH, hE⟩ := hv
  have hl := lv_entry av (n := maxL) hlen
  rw [lg_entry_eq]
  rw [hH]
  exact body p e s m below meth c _ ⟨B.exec, B.bytes, hml, findClass_of_methodNamed B.named, atoms_spec (ws := ws) B.pre⟩ B.returns B.notSynchronized (name_of_methodNamed B.named B.method).1 hH hE hl
theorem kofX {y : MethodName} {ws ws' : List Cond} {rm : Room} {av : List Value} {H : Heap} {Qc : Array Value → State → Outcome → State → Prop} {XC : String → State → State → Prop} {mc ms : Nat} {free : Addr → Prop} {cc : ByteArray} {maxL : Nat} {ret : Option FieldType}
    (hy : plainName y.cls = true) (hw : ws = Cond.code y cc maxL ret :: ws') (hlen : (lg_sl av).length ≤ maxL)
    (body : ∀ p e s m below meth c ls, CallFix p m c cc maxL s av.toArray ws y.cls → meth.sig.returnType = ret → meth.locks = false → (∀ x ∈ c.exceptionTable.toList, False) → s.heap = H → kE ε s → lv_has ls maxL (lv_args 0 av) →
      W p l e rm s m av.toArray below meth c H [] 0 0 (vx_MQ below Qc XC av.toArray s mc ms free) (F0 m 0 ls [])) : vx_Met l y ws rm (va_Pc av (kPre ε H)) Qc XC mc ms free := by
  refine vx_ofW hy hw ?_
  intro p e s m args below meth c s₁ B hml hT hv
  obtain ⟨rfl, hH, hE⟩ := hv
  have hl := lv_entry av (n := maxL) hlen
  rw [lg_entry_eq]
  rw [hH]
  exact body p e s m below meth c _ ⟨B.exec, B.bytes, hml, findClass_of_methodNamed B.named, atoms_spec (ws := ws) B.pre⟩ B.returns B.notSynchronized hT hH hE hl
end KOF
section KCALL
variable {p : Program} {l : Launch} {e : Env} {R : Room} {s : State} {m : MethodId} {args : Array Value} {below : List Frame} {meth : Method} {c : Code} {H : Heap} {locs : List Loc} {cells slots : Nat} {Q : State → Prop}
variable {cc : ByteArray} {pc : Nat} {ls : Array Slot} {rest st0 : List Value} {ε : kEnv} {A A1 : Nat → Prop} {b : Nat} {H0 : Heap}
variable {own C C2 : String} {T : u_T} {N ci index : Nat} {Ts : List Cond} {fs : List Value}
variable {y : MethodName} {bytes : ByteArray} {maxL nL mc ms n : Nat} {ret : Option FieldType} {ws : List Cond} {rm : Room} {Qc : Array Value → State → Outcome → State → Prop} {XC : String → State → State → Prop} {free : Addr → Prop} {As : List Value} {a : Array Value}
theorem kpre_at {av : List Value} (hE : kE ε s) (hS : va_S A s.heap H locs) (hAb : ∀ q, A q → kHi ε q) : ∀ U : State, U.heap = H → s.WarmedH U.vm → va_Pc av (kPre ε H) av.toArray U :=
  fun U hU hW => ⟨rfl, hU, hE.go hW (fun a h1 h2 => by rw [hU]; exact hS.2.1 a h1 (fun h => h2 (hAb a h)))⟩
theorem kc_V (S : CallFix p m c cc nL s args Ts own) (hE : kE ε s) (hS : va_S A s.heap H locs) (hAb : ∀ q, A q → kHi ε q) (hM : Met l y ws rm (va_Pc (.ref b :: As) (kPre ε H)) Qc mc ms free) (cw : CallW R s args own C index y bytes maxL ret ws rm mc ms n) (ho : kat ε b (.inr (ci, fs)) H) (hc : vwCl[ci]? = some (C, T, N)) (hn : As.length = n) (hsz : ls.size = nL) (hst : st0 = As.reverse ++ .ref b :: rest) (hcat : (rest.map fun v => v.category).sum ≤ 8) (hdg : decode cc pc = .ok (.invokevirtual index, 3)) (hf : cells + mc ≤ R.cells ∧ slots + ms ≤ R.slots) :
    va_Run p l e R s m args below meth c H locs cells slots mc ms (F0 m pc ls st0) rest (Qc (Value.ref b :: As).toArray) free :=
  va_runV S hM cw ⟨kBl, va_recv hE.1 (kP1 ho) hc (q0 := 0) rfl, kpre_at (av := .ref b :: As) hE hS hAb⟩ rfl hn hsz hst (lv_room hcat) hdg hf
theorem kc_S (S : CallFix p m c cc nL s args Ts own) (hE : kE ε s) (hS : va_S A s.heap H locs) (hAb : ∀ q, A q → kHi ε q) (hM : Met l y ws rm (va_Pc As (kPre ε H)) Qc mc ms free) (cw : CallB R s args own index y bytes maxL ret ws rm mc ms n ∧ (Cond.static y).before args s = true) (hn : As.length = n) (hsz : ls.size = nL) (hst : st0 = As.reverse ++ rest) (hcat : (rest.map fun v => v.category).sum ≤ 8) (hdg : decode cc pc = .ok (.invokestatic index, 3)) (hf : cells + mc ≤ R.cells ∧ slots + ms ≤ R.slots) :
    va_Run p l e R s m args below meth c H locs cells slots mc ms (F0 m pc ls st0) rest (Qc As.toArray) free :=
  va_runS S hM cw ⟨kBl, kpre_at hE hS hAb⟩ rfl hn hsz hst (lv_room hcat) hdg hf
theorem kc_SN {host : String} (S : CallFix p m c cc nL s args Ts own) (hE : kE ε s) (hS : va_S A s.heap H locs) (hAb : ∀ q, A q → kHi ε q) (hM : Met l y ws rm (va_Pc As (kPre ε H)) Qc mc ms free) (cw : va_CN R s args own index y host bytes maxL ret ws rm mc ms n ∧ (Cond.static y).before args s = true ∧ True) (hn : As.length = n) (hsz : ls.size = nL) (hst : st0 = As.reverse ++ rest) (hcat : (rest.map fun v => v.category).sum ≤ 8) (hdg : decode cc pc = .ok (.invokestatic index, 3)) (hf : cells + mc ≤ R.cells ∧ slots + ms ≤ R.slots) :
    va_Run p l e R s m args below meth c H locs cells slots mc ms (F0 m pc ls st0) rest (Qc As.toArray) free :=
  va_runSN S hM cw ⟨kBl, kpre_at hE hS hAb⟩ rfl hn hsz hst (lv_room hcat) hdg hf
theorem kc_I (S : CallFix p m c cc nL s args Ts own) (hE : kE ε s) (hS : va_S A s.heap H locs) (hAb : ∀ q, A q → kHi ε q) (hM : Met l y ws rm (va_Pc (.ref b :: As) (kPre ε H)) Qc mc ms free) (cw : CallB R s args own index y bytes maxL none ws rm mc ms n ∧ y.name = "<init>" ∧ (Cond.instanceMethod y).before args s = true) (hn : As.length = n) (hsz : ls.size = nL) (hst : st0 = As.reverse ++ .ref b :: rest) (hcat : (rest.map fun v => v.category).sum ≤ 8) (hdg : decode cc pc = .ok (.invokespecial index, 3)) (hf : cells + mc ≤ R.cells ∧ slots + ms ≤ R.slots) :
    va_Run p l e R s m args below meth c H locs cells slots mc ms (F0 m pc ls st0) rest (Qc (Value.ref b :: As).toArray) free :=
  va_runI S hM cw ⟨kBl, kpre_at (av := .ref b :: As) hE hS hAb⟩ rfl hn hsz hst (lv_room hcat) hdg hf
theorem kx_V (S : CallFix p m c cc nL s args Ts own) (hE : kE ε s) (hS : va_S A s.heap H locs) (hAb : ∀ q, A q → kHi ε q) (hM : vx_Met l y ws rm (va_Pc (.ref b :: As) (kPre ε H)) Qc XC mc ms free) (cw : CallW R s args own C index y bytes maxL ret ws rm mc ms n) (ho : kat ε b (.inr (ci, fs)) H) (hc : vwCl[ci]? = some (C, T, N)) (hn : As.length = n) (hsz : ls.size = nL) (hst : st0 = As.reverse ++ .ref b :: rest) (hcat : (rest.map fun v => v.category).sum ≤ 8) (hdg : decode cc pc = .ok (.invokevirtual index, 3)) (hf : cells + mc ≤ R.cells ∧ slots + ms ≤ R.slots) :
    vx_Run p l e R s m args below meth c H locs cells slots mc ms (F0 m pc ls st0) rest (Qc (Value.ref b :: As).toArray) XC free :=
  vx_runV S hM cw ⟨kBl, va_recv hE.1 (kP1 ho) hc (q0 := 0) rfl, kpre_at (av := .ref b :: As) hE hS hAb⟩ rfl hn hsz hst (lv_room hcat) hdg hf
theorem kx_S (S : CallFix p m c cc nL s args Ts own) (hE : kE ε s) (hS : va_S A s.heap H locs) (hAb : ∀ q, A q → kHi ε q) (hM : vx_Met l y ws rm (va_Pc As (kPre ε H)) Qc XC mc ms free) (cw : CallB R s args own index y bytes maxL ret ws rm mc ms n ∧ (Cond.static y).before args s = true) (hn : As.length = n) (hsz : ls.size = nL) (hst : st0 = As.reverse ++ rest) (hcat : (rest.map fun v => v.category).sum ≤ 8) (hdg : decode cc pc = .ok (.invokestatic index, 3)) (hf : cells + mc ≤ R.cells ∧ slots + ms ≤ R.slots) :
    vx_Run p l e R s m args below meth c H locs cells slots mc ms (F0 m pc ls st0) rest (Qc As.toArray) XC free :=
  vx_runS S hM cw ⟨kBl, kpre_at hE hS hAb⟩ rfl hn hsz hst (lv_room hcat) hdg hf
/-- behind a call -/
theorem kgo_i {post : Int32 → Heap → Prop} (hr : va_Run p l e R s m args below meth c H locs cells slots mc ms (F0 m pc ls st0) rest (kQi post A1 a) A1) (hS : va_S A H0 H locs) (hA : ∀ q, A1 q → A q)
    (kk : ∀ (r : Int32) (H1 : Heap) (locs1 : List Loc), post r H1 → H.size ≤ H1.size → (∀ q : Nat, q < H.size → ¬ A1 q → H1[q]? = H[q]?) → va_S A H0 H1 locs1 → W p l e R s m args below meth c H1 locs1 (cells + mc) (slots + ms) Q (F0 m (pc + 3) ls (.int r :: rest))) : W p l e R s m args below meth c H locs cells slots Q (F0 m pc ls st0) :=
  va_calli hr hS (fun q _ h => hA q h) hA (fun r u t H1 locs1 ht _ hp hB h1 h2 h3 => by
    have hu : u = H1 := hB.symm.trans ht
    subst hu
    exact kk r u locs1 hp h1 h2 h3)
theorem kgo_v {post : Heap → Prop} (hr : va_Run p l e R s m args below meth c H locs cells slots mc ms (F0 m pc ls st0) rest (kQv post A1 a) A1) (hS : va_S A H0 H locs) (hA : ∀ q, A1 q → A q)
    (kk : ∀ (H1 : Heap) (locs1 : List Loc), post H1 → H.size ≤ H1.size → (∀ q : Nat, q < H.size → ¬ A1 q → H1[q]? = H[q]?) → va_S A H0 H1 locs1 → W p l e R s m args below meth c H1 locs1 (cells + mc) (slots + ms) Q (F0 m (pc + 3) ls rest)) : W p l e R s m args below meth c H locs cells slots Q (F0 m pc ls st0) :=
  va_callv hr hS (fun q _ h => hA q h) hA (fun u t H1 locs1 ht _ hp hB h1 h2 h3 => by
    have hu : u = H1 := hB.symm.trans ht
    subst hu
    exact kk u locs1 hp h1 h2 h3)
theorem kgo_r {post : Nat → Heap → Prop} (hr : va_Run p l e R s m args below meth c H locs cells slots mc ms (F0 m pc ls st0) rest (kQr post A1 a) A1) (hS : va_S A H0 H locs) (hA : ∀ q, A1 q → A q)
    (kk : ∀ (r : Nat) (H1 : Heap) (locs1 : List Loc), post r H1 → H.size ≤ H1.size → (∀ q : Nat, q < H.size → ¬ A1 q → H1[q]? = H[q]?) → va_S A H0 H1 locs1 → W p l e R s m args below meth c H1 locs1 (cells + mc) (slots + ms) Q (F0 m (pc + 3) ls (.ref r :: rest))) : W p l e R s m args below meth c H locs cells slots Q (F0 m pc ls st0) :=
  va_callr hr hS (fun q _ h => hA q h) hA (fun u ra t H1 locs1 ht _ hp hB h1 h2 h3 => by
    obtain ⟨hB1, hB2⟩ := hB
    have hu : u.2 = H1 := hB2.symm.trans ht
    subst hu
    subst hB1
    exact kk u.1 u.2 locs1 hp h1 h2 h3)
/-- .. that only read -/
theorem kgo_pi {v : Int32} (hr : va_Run p l e R s m args below meth c H locs cells slots 0 0 (F0 m pc ls st0) rest (kQi (fun r H' => r = v ∧ H' = H) kNo a) kNo) (hS : va_S A H0 H locs)
    (kk : ∀ locs1 : List Loc, va_S A H0 H locs1 → W p l e R s m args below meth c H locs1 cells slots Q (F0 m (pc + 3) ls (.int v :: rest))) : W p l e R s m args below meth c H locs cells slots Q (F0 m pc ls st0) :=
  kgo_i hr hS (fun _ h => h.elim) (fun r H1 locs1 hp _ _ h3 => by
    obtain ⟨hp1, hp2⟩ := hp
    subst hp1
    subst hp2
    exact kk locs1 h3)
theorem kgo_pv (hr : va_Run p l e R s m args below meth c H locs cells slots 0 0 (F0 m pc ls st0) rest (kQv (fun H' => H' = H) kNo a) kNo) (hS : va_S A H0 H locs)
    (kk : ∀ locs1 : List Loc, va_S A H0 H locs1 → W p l e R s m args below meth c H locs1 cells slots Q (F0 m (pc + 3) ls rest)) : W p l e R s m args below meth c H locs cells slots Q (F0 m pc ls st0) :=
  kgo_v hr hS (fun _ h => h.elim) (fun H1 locs1 hp _ _ h3 => by
    have hp2 : H1 = H := hp
    subst hp2
    exact kk locs1 h3)
theorem kgo_pr {v : Nat} (hr : va_Run p l e R s m args below meth c H locs cells slots 0 0 (F0 m pc ls st0) rest (kQr (fun r H' => r = v ∧ H' = H) kNo a) kNo) (hS : va_S A H0 H locs)
    (kk : ∀ locs1 : List Loc, va_S A H0 H locs1 → W p l e R s m args below meth c H locs1 cells slots Q (F0 m (pc + 3) ls (.ref v :: rest))) : W p l e R s m args below meth c H locs cells slots Q (F0 m pc ls st0) :=
  kgo_r hr hS (fun _ h => h.elim) (fun r H1 locs1 hp _ _ h3 => by
    obtain ⟨hp1, hp2⟩ := hp
    subst hp1
    subst hp2
    exact kk locs1 h3)
/-- .. that throws -/
theorem kgo_x {E : String} (hr : vx_Run p l e R s m args below meth c H locs cells slots 1 6 (F0 m pc ls st0) rest (fun _ _ _ => False) (kXC E H) kNo) (hS : va_S A H0 H locs)
    (kx : ∀ (ce : Cell) (q9 : Addr) (H1 : Heap) (locs1 : List Loc), H.size ≤ H1.size → (∀ q : Nat, q < H.size → H1[q]? = H[q]?) → va_S A H0 H1 locs1 → H1[q9]? = some ce → ce.vm = .none → s.vm.findClass E = some ce.cls → vx_W p l e R s m args below meth c H1 locs1 (cells + 1) (slots + 6) Q (F0 m pc ls rest) q9) : W p l e R s m args below meth c H locs cells slots Q (F0 m pc ls st0) := by
  intro T hT X
  rcases hr T hT X with ⟨v, st₀, t, T', L, h0, X', hL, e1, e2, hq, st⟩ | ⟨q, st₀, t, T', L, E', ce, h0, X', hL, e1, e2, hx, hce, hcv, hcl, st⟩
  · exact hq.elim
  · obtain ⟨rfl, k1, k2⟩ := hx
    rw [← e1] at k1 k2 hce
    obtain ⟨t2, a1, b1⟩ := kx ce q T'.heap (locs ++ L) k1 k2 ⟨Nat.le_trans hS.1 k1, fun q h1 h2 => (k2 q (Nat.lt_of_lt_of_le h1 hS.1)).trans (hS.2.1 q h1 h2), fun q hq => by
      rcases List.mem_append.mp hq with h | h
      · exact hS.2.2 q h
      · exact (hL q h).elim⟩ hce hcv hcl T' rfl X'
    exact ⟨t2, st.trans a1, b1⟩
/-- a method that has just read goes the way of a callee that throws -/
theorem kthru {E : String} (hT : ∀ x ∈ c.exceptionTable.toList, False) (hlocks : meth.locks = false) (hH : s.heap = H) (hr : vx_Run p l e R s m args below meth c H locs 0 0 1 6 (F0 m pc ls st0) rest (fun _ _ _ => False) (kXC E H) kNo) (hS : va_S kNo s.heap H locs) :
    W p l e R s m args below meth c H locs 0 0 (vx_MQ below kQno (kXC E H) args s 1 6 kNo) (F0 m pc ls st0) :=
  kgo_x hr hS (fun ce q9 H1 locs1 h1 h2 h3 h4 h5 h6 => vx_out (fun x hx => (hT x hx).elim) hlocks h4 h5 h6 (fun t ht _ => ⟨rfl, by rw [ht]; exact h1, fun q hq => by rw [ht]; exact h2 q hq⟩) h3.2.2 (Nat.le_refl _) (Nat.le_refl _))
/-- 'throw new E("text")' at the end of a method that has just read -/
theorem kthrow {E : String} {names : List String} {ik is ic k : Nat} {text : String} (hl : l.stackTraces = false) (S : CallFix p m c cc nL s args Ts RX4) (hE : kE ε s) (hT : ∀ x ∈ c.exceptionTable.toList, False) (hlocks : meth.locks = false) (hS : va_S kNo s.heap H locs) (hsz : ls.size = nL)
    (hfit : Bundle.fit E = true ∧ ∀ n ∈ names, Bundle.fit n = true) (hk : Cond.classLink RX4 ik E ∈ Ts) (hini : Cond.initialized E ∈ Ts) (hstr : kSt[k]? = some (is, text))
    (hgw : ∀ w ∈ (vx_atS RX4 ic E names).filter goodWord, w ∈ Ts) (hbw : ∀ w ∈ (vx_atS RX4 ic E names).filter (fun w => !goodWord w), w ∈ kNC.map (fun q => Cond.castable q.1 q.2) ++ kND.map (fun q => Cond.declares q)) (hgood : (Cond.classLink RX4 ik E :: Cond.initialized E :: vx_atS RX4 ic E names).all vx_ot = true)
    (d0 : decode cc pc = .ok (.new ik, 3)) (d3 : decode cc (pc + 3) = .ok (.dup, 1)) (d4 : decode cc (pc + 4) = .ok (.ldc is, 2)) (d6 : decode cc (pc + 6) = .ok (.invokespecial ic, 3)) (d9 : decode cc (pc + 9) = .ok (.athrow, 1))
    (hR : names.length + 3 < R.frames ∧ (rest.map fun v => v.category).sum + (13 * (names.length + 1) + 43) ≤ R.locals ∧ 1 ≤ R.cells ∧ 6 ≤ R.slots) :
    W p l e R s m args below meth c H locs 0 0 (vx_MQ below kQno (kXC E H) args s 1 6 kNo) (F0 m pc ls rest) := by
  obtain ⟨hx, hb, hml, hown, hts⟩ := S
  obtain ⟨h1, h2, h3, h4, h5, h6, h7, h8, h9, h10, h11, h12⟩ := hE
  have hB : ∀ w ∈ kNC.map (fun q => Cond.castable q.1 q.2) ++ kND.map (fun q => Cond.declares q), w.before args s = true := by
    intro w hw
    rcases List.mem_append.mp hw with hw | hw
    · obtain ⟨q, hq, rfl⟩ := List.mem_map.mp hw
      exact va_Nw.use (A := args) rfl (h2 q hq)
    · obtain ⟨q, hq, rfl⟩ := List.mem_map.mp hw
      exact va_Nw.use (A := args) rfl (h4 q hq)
  exact vx_throwS hx hb hl hown hfit.1 hfit.2 (hts _ hk) (hts _ hini) (h10 k _ hstr) (vx_hat (fun w hw => hts w (hgw w hw)) hbw hB) (fun w hw => List.all_eq_true.mp hgood w hw)
    (h6.narrow (fun _ h => h.elim)) (h7.narrow (fun _ h => h.elim)) hS (hsz.trans hml.symm) d0 d3 d4 d6 d9 (fun x hx => (hT x hx).elim) hR.1 hR.2.1 (by omega) (by omega) hlocks
    (fun t _ h1 h2 => ⟨rfl, h1, h2⟩) hS.2.2 (Nat.le_refl _) (Nat.le_refl _)
/-- ends -/
theorem kend_i {post : Int32 → Heap → Prop} {v : Int32} (S : CallFix p m c cc nL s args Ts own) (hr : meth.sig.returnType = some .int) (hlocks : meth.locks = false) (hS : va_S A s.heap H locs) (hp : post v H) (hdg : decode cc pc = .ok (.ireturn, 1)) : W p l e R s m args below meth c H locs cells slots (MQ below (kQi post A) args s cells slots A) (F0 m pc ls [.int v]) :=
  W.iret S.1 S.2.1 hr (fun t ht _ => ⟨⟨v, H, rfl, hp, ht⟩, hS.F ht⟩) hS.2.2 hdg hlocks
theorem kend_z {post : Int32 → Heap → Prop} {v : Int32} (S : CallFix p m c cc nL s args Ts own) (hr : meth.sig.returnType = some .boolean) (hlocks : meth.locks = false) (hS : va_S A s.heap H locs) (hp : post v H) (hv : v = 0 ∨ v = 1) (hdg : decode cc pc = .ok (.ireturn, 1)) : W p l e R s m args below meth c H locs cells slots (MQ below (kQi post A) args s cells slots A) (F0 m pc ls [.int v]) :=
  W.zret S.1 S.2.1 hr (by rcases hv with rfl | rfl <;> rfl) (fun t ht _ => ⟨⟨v, H, rfl, hp, ht⟩, hS.F ht⟩) hS.2.2 hdg hlocks
theorem kend_v {post : Heap → Prop} (S : CallFix p m c cc nL s args Ts own) (hr : meth.sig.returnType = none) (hlocks : meth.locks = false) (hS : va_S A s.heap H locs) (hp : post H) (hdg : decode cc pc = .ok (.return_, 1)) : W p l e R s m args below meth c H locs cells slots (MQ below (kQv post A) args s cells slots A) (F0 m pc ls []) :=
  W.vret S.1 S.2.1 hr (fun t ht _ => ⟨⟨H, rfl, hp, ht⟩, hS.F ht⟩) hS.2.2 hdg hlocks
theorem kend_r {post : Nat → Heap → Prop} {v : Nat} {rt : FieldType} (S : CallFix p m c cc nL s args Ts own) (hr : meth.sig.returnType = some rt) (hrt : (∃ n, rt = .object n) ∨ ∃ t, rt = .array t) (hlocks : meth.locks = false) (hS : va_S A s.heap H locs) (hp : post v H) (hdg : decode cc pc = .ok (.areturn, 1)) : W p l e R s m args below meth c H locs cells slots (MQ below (kQr post A) args s cells slots A) (F0 m pc ls [.ref v]) :=
  W.aret (v := .ref v) S.1 S.2.1 hr hrt (Or.inr ⟨v, rfl⟩) (fun t ht _ => ⟨⟨(v, H), v, rfl, hp, rfl, ht⟩, hS.F ht⟩) hS.2.2 hdg hlocks
end KCALL
section KTOP
variable {p : Program} {l : Launch} {e : Env} {R : Room} {s : State} {m : MethodId} {args : Array Value} {below : List Frame} {meth : Method} {c : Code} {H : Heap} {locs : List Loc} {cells slots : Nat} {Q : State → Prop} {pc : Nat} {ls : Array Slot} {rest : List Value}
theorem kr_top {x y : Int32} (h : x = y) (k : W p l e R s m args below meth c H locs cells slots Q (F0 m pc ls (.int y :: rest))) : W p l e R s m args below meth c H locs cells slots Q (F0 m pc ls (.int x :: rest)) := by
  subst h
  exact k
end KTOP
