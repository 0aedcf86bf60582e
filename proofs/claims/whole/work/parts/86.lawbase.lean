/-! ===== the law's wrappers: a method with an exception table that returns; what is caught ===== -/
theorem kofH {l : Launch} {ε : kEnv} {y : MethodName} {ws ws' : List Cond} {rm : Room} {av : List Value} {H : Heap} {Qc : Array Value → State → Outcome → State → Prop} {mc ms : Nat} {free : Addr → Prop} {cc : ByteArray} {maxL : Nat} {ret : Option FieldType} {hh : List (Nat × Nat × Nat × Nat)}
    (hy : plainName y.cls = true) (hw : ws = Cond.codeWith y cc maxL ret hh :: ws') (hlen : (lg_sl av).length ≤ maxL)
    (body : ∀ p e s m below meth c ls, CallFix p m c cc maxL s av.toArray ws y.cls → meth.sig.returnType = ret → meth.locks = false → c.exceptionTable.toList = tableOf hh → s.heap = H → kE ε s → lv_has ls maxL (lv_args 0 av) →
      W p l e rm s m av.toArray below meth c H [] 0 0 (MQ below Qc av.toArray s mc ms free) (F0 m 0 ls [])) : Met l y ws rm (va_Pc av (kPre ε H)) Qc mc ms free := by
  refine MetFree.of_bodyS (code := cc) (maxLocals := maxL) (ret := ret) hy ?_ ?_
  · intro args s m h hn
    obtain ⟨m9, meth, c, hn9, h1, h2, h3, h4, -, h5, h6, -⟩ := Cond.codeWith_spec (atoms_spec (ws := ws) h _ (by rw [hw]; exact List.mem_cons_self))
    cases hn.symm.trans hn9
    exact ⟨meth, c, h1, h2, h3, h4, h5, h6⟩
  · intro p e s m args below meth c s₁ B hml hP _
    obtain ⟨rfl, hH, hE⟩ := hP
    have hh0 : s₁.heap = s.heap := by rw [B.state]; rfl
    have hts := atoms_spec (ws := ws) B.pre
    have hT := vx_table (x := y) B (hts _ (by rw [hw]; exact List.mem_cons_self))
    have hl := lv_entry av (n := maxL) hlen
    have K : W p l e rm s m av.toArray below meth c s.heap [] 0 0 (MQ below Qc av.toArray s mc ms free) (entryFrame m av.toArray maxL) := by
      rw [lg_entry_eq]
      rw [hH]
      exact body p e s m below meth c _ ⟨B.exec, B.bytes, hml, findClass_of_methodNamed B.named, hts⟩ B.returns B.notSynchronized hT hH hE hl
    obtain ⟨t, a1, o, b1, b2, b3⟩ := K s₁ hh0 (Stand.of_body B)
    exact ⟨t, o, a1, b1, b2, b3⟩
section KLAWB
variable {p : Program} {l : Launch} {e : Env} {R : Room} {s : State} {m : MethodId} {args : Array Value} {below : List Frame} {meth : Method} {c : Code} {H : Heap} {locs : List Loc} {cells slots : Nat} {Q : State → Prop} {cc : ByteArray} {pc : Nat} {ls : Array Slot} {rest : List Value} {ε : kEnv}
theorem kcatch {own E : String} {ce : Cell} {q : Addr} {hh : List (Nat × Nat × Nat × Nat)} (pre : List (Nat × Nat × Nat × Nat)) (x : Nat × Nat × Nat × Nat) (suf : List (Nat × Nat × Nat × Nat)) (hE : kE ε s) (hown : s.vm.findClass own = some m.cls) (hT : c.exceptionTable.toList = tableOf hh) (he : hh = pre ++ x :: suf)
    (hcov : x.1 ≤ pc ∧ pc < x.2.1) (h0 : x.2.2.2 ≠ 0) (hpass : ∀ z ∈ pre, z.2.2.2 ≠ 0 ∧ ∃ nm : String, (Cond.classLink own z.2.2.2 nm).before args s = true ∧ (E, nm) ∈ kNN)
    (hlink : (Cond.classLink own x.2.2.2 E).before args s = true) (hc : (E, E) ∈ kNC) (hcell : H[q]? = some ce) (hv : ce.vm = .none) (hcl : s.vm.findClass E = some ce.cls)
    (kk : W p l e R s m args below meth c H locs cells slots Q (F0 m x.2.2.1 ls [.ref q])) : vx_W p l e R s m args below meth c H locs cells slots Q (F0 m pc ls rest) q := by
  have hs : c.exceptionTable.toList = tableOf pre ++ (⟨x.1, x.2.1, x.2.2.1, x.2.2.2⟩ : ExceptionTableEntry) :: tableOf suf := by
    rw [hT, he]
    simp [tableOf]
  refine vx_catch (name := E) (E := E) (ce := ce) hown (tableOf pre) ⟨x.1, x.2.1, x.2.2.1, x.2.2.2⟩ (tableOf suf) hs (fun z hz => ?_) ?_ h0 hlink (va_Nw.use (A := args) rfl (hE.2.1 (E, E) hc)) hcell hv hcl kk
  · obtain ⟨z', hz', rfl⟩ := List.mem_map.mp hz
    obtain ⟨h1, nm, h2, h3⟩ := hpass z' hz'
    exact Or.inr ⟨h1, nm, h2, hE.2.2.1 (E, nm) h3⟩
  · simp [covers, hcov.1, hcov.2]
theorem kgo_pf {A : Nat → Prop} {H0 : Heap} {st0 : List Value} {a : Array Value} {v : UInt32} (hr : va_Run p l e R s m args below meth c H locs cells slots 0 0 (F0 m pc ls st0) rest (kQf (fun r H' => r = v ∧ H' = H) kNo a) kNo) (hS : va_S A H0 H locs)
    (kk : ∀ locs1 : List Loc, va_S A H0 H locs1 → W p l e R s m args below meth c H locs1 cells slots Q (F0 m (pc + 3) ls (.float v :: rest))) : W p l e R s m args below meth c H locs cells slots Q (F0 m pc ls st0) :=
  kgo_f hr hS (fun _ h => h.elim) (fun r H1 locs1 hp _ _ h3 => by
    obtain ⟨hp1, hp2⟩ := hp
    subst hp1
    subst hp2
    exact kk locs1 h3)
theorem kr_lcmpE {x : Int64} (hexec : p.tables.exec = Jvm.exec) (hb : c.code = cc) (hdg : decode cc pc = .ok (.lcmp, 1))
    (k : W p l e R s m args below meth c H locs cells slots Q (F0 m (pc + 1) ls (.int 0 :: rest))) : W p l e R s m args below meth c H locs cells slots Q (F0 m pc ls (.long x :: .long x :: rest)) := by
  intro T hT X
  obtain ⟨t, a, b⟩ := k T hT X
  refine ⟨t, ?_, b⟩
  jvm_step X.here [X.here.top, hexec, hb, hdg]
  simpa using a
theorem kf_n64 {x : UInt32} (h : vf_n32 x) : vf_n64 (FP.f2d x) := by
  have h1 : FP.fIsNaN x = false := by
    cases h9 : FP.fIsNaN x
    · rfl
    · exfalso
      have h2 : x.toNat % 2 ^ 31 ≤ 2139095040 := by
        have h3 := UInt32.le_iff_toNat_le.mp h
        rw [UInt32.toNat_and, show (0x7fffffff : UInt32).toNat = 2 ^ 31 - 1 from rfl, Nat.and_two_pow_sub_one_eq_mod] at h3
        exact h3
      have h4 := (Jvm.FP.Core.ne_nan32 x).mpr h2
      exact h4 ((Jvm.FP.Core.fIsNaN_iff x).mp h9)
  have h5 : FP.dIsNaN (FP.f2d x) = false := (Jvm.FP.f2d_nan x).trans h1
  have h6 : (FP.f2d x).toNat % 2 ^ 63 ≤ 9218868437227405312 := (Jvm.FP.Core.ne_nan (FP.f2d x)).mp (fun h7 => by
    have h8 := (Jvm.FP.Core.dIsNaN_iff (FP.f2d x)).mpr h7
    rw [show Jvm.FP.Core.dIsNaN (FP.f2d x) = FP.dIsNaN (FP.f2d x) from rfl, h5] at h8
    cases h8)
  unfold vf_n64
  apply UInt64.le_iff_toNat_le.mpr
  rw [UInt64.toNat_and, show (0x7fffffffffffffff : UInt64).toNat = 2 ^ 63 - 1 from rfl, Nat.and_two_pow_sub_one_eq_mod]
  exact h6
theorem kf_dcmp {x : UInt64} (h : vf_n64 x) : FP.dcmp x x = some .eq := by
  refine Jvm.FP.Core.dcmp_self ((Jvm.FP.Core.ne_nan x).mpr ?_)
  have h3 := UInt64.le_iff_toNat_le.mp h
  rw [UInt64.toNat_and, show (0x7fffffffffffffff : UInt64).toNat = 2 ^ 63 - 1 from rfl, Nat.and_two_pow_sub_one_eq_mod] at h3
  exact h3
theorem kr_dcmpE {x : UInt64} {op : CmpOp} (hexec : p.tables.exec = Jvm.exec) (hb : c.code = cc) (hdg : decode cc pc = .ok (.dcmp op, 1)) (hn : vf_n64 x)
    (k : W p l e R s m args below meth c H locs cells slots Q (F0 m (pc + 1) ls (.int 0 :: rest))) : W p l e R s m args below meth c H locs cells slots Q (F0 m pc ls (.double x :: .double x :: rest)) := by
  refine lv_dcmp hexec hb hdg ?_
  rw [kf_dcmp hn]
  exact k
end KLAWB
/-- where a wrapper may write: the class's world, and its row of answers -/
abbrev kAo (A : Nat → Prop) (o : Nat) : Nat → Prop := fun q => A q ∨ q = o
theorem kAo_hi {ε : kEnv} {A : Nat → Prop} {o : Nat} (hAb : ∀ q, A q → kHi ε q) (ho : kHi ε o) : ∀ q, kAo A o q → kHi ε q := fun q h => h.elim (hAb q) (fun h => by rw [h]; exact ho)
/-- a wrapper's end: the code kn, the class's new state, the answer as a long -/
abbrev kLP (ε : kEnv) (A : Nat → Prop) (o x0 : Nat) (σ' : kS) (kn : Nat) (v : Int32) : Int32 → Heap → Prop := fun r9 H' => r9 = nI kn ∧ (∃ ad', ad' 0 0 = x0 ∧ kW ε A ad' σ' H') ∧ ∃ g, kat ε o (kJ ε 1 g) H' ∧ (kn = 0 → g 0 = v.toInt64)
abbrev kLD (ε : kEnv) (A : Nat → Prop) (o x0 : Nat) (σ' : kS) (kn : Nat) (v : UInt32) : Int32 → Heap → Prop := fun r9 H' => r9 = nI kn ∧ (∃ ad', ad' 0 0 = x0 ∧ kW ε A ad' σ' H') ∧ ∃ g, kat ε o (kD ε 1 g) H' ∧ (kn = 0 → g 0 = FP.f2d v)
