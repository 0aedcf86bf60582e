/-! ===== act: a method with a table that returns; what is caught ===== -/
theorem kofH {l : Launch} {ε : kEnv} {y : MethodName} {ws ws' : List Cond} {rm : Room} {av : List Value} {H : Heap} {Qc : Array Value → State → Outcome → State → Prop} {mc ms : Nat} {free : Addr → Prop} {cc : ByteArray} {maxL : Nat} {ret : Option FieldType} {hh : List (Nat × Nat × Nat × Nat)}
    (hy : plainName y.cls = true) (hw : ws = Cond.codeWith y cc maxL ret hh :: ws') (hlen : (lg_sl av).length ≤ maxL)
    (body : ∀ p e s m below meth c ls, CallFix p m c cc maxL s av.toArray ws y.cls → meth.sig.returnType = ret → meth.locks = false → c.exceptionTable.toList = tableOf hh → s.heap = H → kE ε s → lv_has ls maxL (lv_args 0 av) →
      W p l e rm s m av.toArray below meth c H [] 0 0 (MQ below Qc av.toArray s mc ms free) (F0 m 0 ls [])) : Met l y ws rm (va_Pc av (kPre ε H)) Qc mc ms free := by
  refine MetFree.of_bodyS (code := cc) (maxLocals := maxL) (ret := ret) hy ?_ ?_
  · intro args s m h hn
    obtain ⟨m9, meth, c, hn9, h1, h2, h3, h4, -, h5, h6, -⟩ := Cond.codeWith_spec (atoms_spec (ws := ws) h _ (by rw [hw]; exact List.mem_cons_self))
    cases hn.symm.trans hn9
    exact ⟨meth, c, h1, h2, h3, h4, h5, h6⟩
  · intro p e s m args below meth c s₁ B hml hP _
    obtain ⟨rfl, hH, hE⟩ := hP
    have hh0 : s₁.heap = s.heap := by rw [B.state]; rfl
    have hts := atoms_spec (ws := ws) B.pre
    have hT := vx_table (x := y) B (hts _ (by rw [hw]; exact List.mem_cons_self))
    have hl := lv_entry av (n := maxL) hlen
    have K : W p l e rm s m av.toArray below meth c s.heap [] 0 0 (MQ below Qc av.toArray s mc ms free) (entryFrame m av.toArray maxL) := by
      rw [lg_entry_eq]
      rw [hH]
      exact body p e s m below meth c _ ⟨B.exec, B.bytes, hml, findClass_of_methodNamed B.named, hts⟩ B.returns B.notSynchronized hT hH hE hl
    obtain ⟨t, a1, o, b1, b2, b3⟩ := K s₁ hh0 (Stand.of_body B)
    exact ⟨t, o, a1, b1, b2, b3⟩
section KLAWB
variable {p : Program} {l : Launch} {e : Env} {R : Room} {s : State} {m : MethodId} {args : Array Value} {below : List Frame} {meth : Method} {c : Code} {H : Heap} {locs : List Loc} {cells slots : Nat} {Q : State → Prop} {cc : ByteArray} {pc : Nat} {ls : Array Slot} {rest : List Value} {ε : kEnv}
theorem kcatch {own E : String} {ce : Cell} {q : Addr} {hh : List (Nat × Nat × Nat × Nat)} (pre : List (Nat × Nat × Nat × Nat)) (x : Nat × Nat × Nat × Nat) (suf : List (Nat × Nat × Nat × Nat)) (hE : kE ε s) (hown : s.vm.findClass own = some m.cls) (hT : c.exceptionTable.toList = tableOf hh) (he : hh = pre ++ x :: suf)
    (hcov : x.1 ≤ pc ∧ pc < x.2.1) (h0 : x.2.2.2 ≠ 0) (hpass : ∀ z ∈ pre, z.2.2.2 ≠ 0 ∧ ∃ nm : String, (Cond.classLink own z.2.2.2 nm).before args s = true ∧ (E, nm) ∈ kNN)
    (hlink : (Cond.classLink own x.2.2.2 E).before args s = true) (hc : (E, E) ∈ kNC) (hcell : H[q]? = some ce) (hv : ce.vm = .none) (hcl : s.vm.findClass E = some ce.cls)
    (kk : W p l e R s m args below meth c H locs cells slots Q (F0 m x.2.2.1 ls [.ref q])) : vx_W p l e R s m args below meth c H locs cells slots Q (F0 m pc ls rest) q := by
  have hs : c.exceptionTable.toList = tableOf pre ++ (⟨x.1, x.2.1, x.2.2.1, x.2.2.2⟩ : ExceptionTableEntry) :: tableOf suf := by
    rw [hT, he]
    simp [tableOf]
  refine vx_catch (name := E) (E := E) (ce := ce) hown (tableOf pre) ⟨x.1, x.2.1, x.2.2.1, x.2.2.2⟩ (tableOf suf) hs (fun z hz => ?_) ?_ h0 hlink (va_Nw.use (A := args) rfl (hE.2.1 (E, E) hc)) hcell hv hcl kk
  · obtain ⟨z', hz', rfl⟩ := List.mem_map.mp hz
    obtain ⟨h1, nm, h2, h3⟩ := hpass z' hz'
    exact Or.inr ⟨h1, nm, h2, hE.2.2.1 (E, nm) h3⟩
  · simp [covers, hcov.1, hcov.2]
theorem kc_SW {cc : ByteArray} {pc : Nat} {ls : Array Slot} {rest st0 : List Value} {ε : kEnv} {A : Nat → Prop} {own : String} {index nL : Nat} {Ts : List Cond} {y : MethodName} {bytes : ByteArray} {maxL mc ms n : Nat} {ret : Option FieldType} {hh : List (Nat × Nat × Nat × Nat)} {ws : List Cond} {rm : Room} {Qc : Array Value → State → Outcome → State → Prop} {free : Addr → Prop} {As : List Value}
    (S : CallFix p m c cc nL s args Ts own) (hE : kE ε s) (hS : va_S A s.heap H locs) (hAb : ∀ q, A q → kHi ε q) (hM : Met l y ws rm (va_Pc As (kPre ε H)) Qc mc ms free) (cw : vx_CSW R s args own index y bytes maxL ret hh ws rm mc ms n) (hn : As.length = n) (hsz : ls.size = nL) (hst : st0 = As.reverse ++ rest) (hcat : (rest.map fun v => v.category).sum ≤ 8) (hdg : decode cc pc = .ok (.invokestatic index, 3)) (hf : cells + mc ≤ R.cells ∧ slots + ms ≤ R.slots) :
    va_Run p l e R s m args below meth c H locs cells slots mc ms (F0 m pc ls st0) rest (Qc As.toArray) free :=
  vx_runSW S hM cw ⟨kBl, kpre_at hE hS hAb⟩ rfl hn hsz hst (lv_room hcat) hdg hf
end KLAWB
set_option maxHeartbeats 4000000 in
set_option maxRecDepth 100000 in
theorem ax_addRegion1 (ε : kEnv) (l : Launch) {A : Nat → Prop} {ad : Nat → Nat → Nat} {σ : kS} {H : Heap} {x1 x2 x3 x4 : Int32} (hw : kW ε A ad σ H) (hC : kX ε l yX4_addRegion wsX4_addRegion ({ frames := 7, cells := 1, slots := 6, locals := 120 }) [.ref (ad 0 0), .int x1] H "java/lang/IndexOutOfBoundsException") : kMi ε l yL_act wsL_act ({ frames := 11, cells := 1, slots := 6, locals := 310 }) [.ref (ad 0 0), .int 0, .int x1, .int x2, .int x3, .int x4] H kNo (1) (6) (fun r9 _ => r9 = -41) := by
  refine kofH (cc := cL_act) (maxL := 7) (ret := (some .int)) (hh := [(0, 368, 369, 83), (0, 368, 374, 85), (0, 368, 379, 87)]) (by decide) rfl (Nat.le_of_ble_eq_true rfl) ?_
  intro p e s m below meth c ls S hr hlocks hT hH hE hl
  have S : CallFix p m c cL_act 7 s _ wsL_act RL := S
  have hx := S.1
  have hb := S.2.1
  have hown : s.vm.findClass RL = some m.cls := S.2.2.2.1
  have hts := S.2.2.2.2
  have hK := hE.1
  have hS : va_S kNo s.heap H [] := by rw [hH]; exact va_S.rf
  have hAb : ∀ q, kNo q → kHi ε q := fun _ h => h.elim
  have hl : lv_has ls 7 [(0, .ref (ad 0 0)), (1, .int 0), (2, .int x1), (3, .int x2), (4, .int x3), (5, .int x4)] := hl
  refine lv_iload_n hx hb dL_act_0 rfl (lv_at hl 1 rfl) ?_
  refine lv_if_ne (tgt := 12) hx hb dL_act_1 (by decide) (fun hc => absurd (by decide) hc) (fun _ => ?_)
  refine lv_aload_n hx hb dL_act_4 rfl (lv_at hl 0 rfl) ?_
  refine lv_iload_n hx hb dL_act_5 rfl (lv_at hl 2 rfl) ?_
  refine kgo_x (kx_V (As := [.int x1]) (rest := []) S hE hS hAb hC (cwV 1 hts gL_act_X4_addRegion rfl rfl rfl (by decide +kernel) ⟨Nat.le_of_ble_eq_true rfl, Nat.le_of_ble_eq_true rfl⟩) (hw.lv 0 0 (rfl : (0 : Nat) = 0)) rfl rfl hl.1 rfl (Nat.le_of_ble_eq_true rfl) dL_act_6 ⟨Nat.le_refl _, Nat.le_refl _⟩) hS (fun ce q9 H1 locs h1 h2 hS h4 h5 h6 => ?_)
  refine kcatch (E := "java/lang/IndexOutOfBoundsException") [] (0, 368, 369, 83) [(0, 368, 374, 85), (0, 368, 379, 87)] hE hown hT rfl (by decide) (by decide) (fun z hz => by simp at hz) (hts (.classLink RL 83 "java/lang/IndexOutOfBoundsException") (by decide +kernel)) (by decide +kernel) h4 h5 h6 ?_
  refine lv_astore (lv' := [(6, .ref q9), (0, .ref (ad 0 0)), (1, .int 0), (2, .int x1), (3, .int x2), (4, .int x3), (5, .int x4)]) hx hb dL_act_369 hl (by decide) rfl (fun ls hl => ?_)
  refine lv_bipush (v := -41) hx hb dL_act_371 (by decide) ?_
  refine kend_i S hr hlocks hS rfl dL_act_373
set_option maxHeartbeats 4000000 in
set_option maxRecDepth 100000 in
theorem ax_addRegion3 (ε : kEnv) (l : Launch) {A : Nat → Prop} {ad : Nat → Nat → Nat} {σ : kS} {H : Heap} {x1 x2 x3 x4 : Int32} (hw : kW ε A ad σ H) (hC : kX ε l yX4_addRegion wsX4_addRegion ({ frames := 7, cells := 1, slots := 6, locals := 120 }) [.ref (ad 0 0), .int x1] H "java/lang/IllegalStateException") : kMi ε l yL_act wsL_act ({ frames := 11, cells := 1, slots := 6, locals := 310 }) [.ref (ad 0 0), .int 0, .int x1, .int x2, .int x3, .int x4] H kNo (1) (6) (fun r9 _ => r9 = -43) := by
  refine kofH (cc := cL_act) (maxL := 7) (ret := (some .int)) (hh := [(0, 368, 369, 83), (0, 368, 374, 85), (0, 368, 379, 87)]) (by decide) rfl (Nat.le_of_ble_eq_true rfl) ?_
  intro p e s m below meth c ls S hr hlocks hT hH hE hl
  have S : CallFix p m c cL_act 7 s _ wsL_act RL := S
  have hx := S.1
  have hb := S.2.1
  have hown : s.vm.findClass RL = some m.cls := S.2.2.2.1
  have hts := S.2.2.2.2
  have hK := hE.1
  have hS : va_S kNo s.heap H [] := by rw [hH]; exact va_S.rf
  have hAb : ∀ q, kNo q → kHi ε q := fun _ h => h.elim
  have hl : lv_has ls 7 [(0, .ref (ad 0 0)), (1, .int 0), (2, .int x1), (3, .int x2), (4, .int x3), (5, .int x4)] := hl
  refine lv_iload_n hx hb dL_act_0 rfl (lv_at hl 1 rfl) ?_
  refine lv_if_ne (tgt := 12) hx hb dL_act_1 (by decide) (fun hc => absurd (by decide) hc) (fun _ => ?_)
  refine lv_aload_n hx hb dL_act_4 rfl (lv_at hl 0 rfl) ?_
  refine lv_iload_n hx hb dL_act_5 rfl (lv_at hl 2 rfl) ?_
  refine kgo_x (kx_V (As := [.int x1]) (rest := []) S hE hS hAb hC (cwV 1 hts gL_act_X4_addRegion rfl rfl rfl (by decide +kernel) ⟨Nat.le_of_ble_eq_true rfl, Nat.le_of_ble_eq_true rfl⟩) (hw.lv 0 0 (rfl : (0 : Nat) = 0)) rfl rfl hl.1 rfl (Nat.le_of_ble_eq_true rfl) dL_act_6 ⟨Nat.le_refl _, Nat.le_refl _⟩) hS (fun ce q9 H1 locs h1 h2 hS h4 h5 h6 => ?_)
  refine kcatch (E := "java/lang/IllegalStateException") [(0, 368, 369, 83), (0, 368, 374, 85)] (0, 368, 379, 87) [] hE hown hT rfl (by decide) (by decide) (fun z hz => by
      simp only [List.mem_cons, List.not_mem_nil, or_false] at hz
      rcases hz with rfl | rfl
      · exact ⟨by decide, "java/lang/IndexOutOfBoundsException", hts (.classLink RL 83 "java/lang/IndexOutOfBoundsException") (by decide +kernel), by decide +kernel⟩
      · exact ⟨by decide, "java/lang/IllegalArgumentException", hts (.classLink RL 85 "java/lang/IllegalArgumentException") (by decide +kernel), by decide +kernel⟩) (hts (.classLink RL 87 "java/lang/IllegalStateException") (by decide +kernel)) (by decide +kernel) h4 h5 h6 ?_
  refine lv_astore (lv' := [(6, .ref q9), (0, .ref (ad 0 0)), (1, .int 0), (2, .int x1), (3, .int x2), (4, .int x3), (5, .int x4)]) hx hb dL_act_379 hl (by decide) rfl (fun ls hl => ?_)
  refine lv_bipush (v := -43) hx hb dL_act_381 (by decide) ?_
  refine kend_i S hr hlocks hS rfl dL_act_383
set_option maxHeartbeats 4000000 in
set_option maxRecDepth 100000 in
theorem ax_addCheck2 (ε : kEnv) (l : Launch) {A : Nat → Prop} {ad : Nat → Nat → Nat} {σ : kS} {H : Heap} {x1 x2 x3 x4 : Int32} (hw : kW ε A ad σ H) (hC : kX ε l yX4_addCheck wsX4_addCheck ({ frames := 7, cells := 1, slots := 6, locals := 120 }) [.ref (ad 0 0), .int x1, .int x2, .int x3, .int x4] H "java/lang/IllegalArgumentException") : kMi ε l yL_act wsL_act ({ frames := 11, cells := 1, slots := 6, locals := 310 }) [.ref (ad 0 0), .int 1, .int x1, .int x2, .int x3, .int x4] H kNo (1) (6) (fun r9 _ => r9 = -42) := by
  refine kofH (cc := cL_act) (maxL := 7) (ret := (some .int)) (hh := [(0, 368, 369, 83), (0, 368, 374, 85), (0, 368, 379, 87)]) (by decide) rfl (Nat.le_of_ble_eq_true rfl) ?_
  intro p e s m below meth c ls S hr hlocks hT hH hE hl
  have S : CallFix p m c cL_act 7 s _ wsL_act RL := S
  have hx := S.1
  have hb := S.2.1
  have hown : s.vm.findClass RL = some m.cls := S.2.2.2.1
  have hts := S.2.2.2.2
  have hK := hE.1
  have hS : va_S kNo s.heap H [] := by rw [hH]; exact va_S.rf
  have hAb : ∀ q, kNo q → kHi ε q := fun _ h => h.elim
  have hl : lv_has ls 7 [(0, .ref (ad 0 0)), (1, .int 1), (2, .int x1), (3, .int x2), (4, .int x3), (5, .int x4)] := hl
  refine lv_iload_n hx hb dL_act_0 rfl (lv_at hl 1 rfl) ?_
  refine lv_if_ne (tgt := 12) hx hb dL_act_1 (by decide) (fun _ => ?_) (fun hc => absurd hc (by decide))
  refine lv_iload_n hx hb dL_act_12 rfl (lv_at hl 1 rfl) ?_
  refine lv_iconst (v := 1) hx hb dL_act_13 (by decide) ?_
  refine lv_icmp_ne (tgt := 30) hx hb dL_act_14 (by decide) (fun hc => absurd (by decide) hc) (fun _ => ?_)
  refine lv_aload_n hx hb dL_act_17 rfl (lv_at hl 0 rfl) ?_
  refine lv_iload_n hx hb dL_act_18 rfl (lv_at hl 2 rfl) ?_
  refine lv_iload_n hx hb dL_act_19 rfl (lv_at hl 3 rfl) ?_
  refine lv_iload hx hb dL_act_20 (lv_at hl 4 rfl) ?_
  refine lv_iload hx hb dL_act_22 (lv_at hl 5 rfl) ?_
  refine kgo_x (kx_V (As := [.int x1, .int x2, .int x3, .int x4]) (rest := []) S hE hS hAb hC (cwV 4 hts gL_act_X4_addCheck rfl rfl rfl (by decide +kernel) ⟨Nat.le_of_ble_eq_true rfl, Nat.le_of_ble_eq_true rfl⟩) (hw.lv 0 0 (rfl : (0 : Nat) = 0)) rfl rfl hl.1 rfl (Nat.le_of_ble_eq_true rfl) dL_act_24 ⟨Nat.le_refl _, Nat.le_refl _⟩) hS (fun ce q9 H1 locs h1 h2 hS h4 h5 h6 => ?_)
  refine kcatch (E := "java/lang/IllegalArgumentException") [(0, 368, 369, 83)] (0, 368, 374, 85) [(0, 368, 379, 87)] hE hown hT rfl (by decide) (by decide) (fun z hz => by
      simp only [List.mem_cons, List.not_mem_nil, or_false] at hz
      rcases hz with rfl
      · exact ⟨by decide, "java/lang/IndexOutOfBoundsException", hts (.classLink RL 83 "java/lang/IndexOutOfBoundsException") (by decide +kernel), by decide +kernel⟩) (hts (.classLink RL 85 "java/lang/IllegalArgumentException") (by decide +kernel)) (by decide +kernel) h4 h5 h6 ?_
  refine lv_astore (lv' := [(6, .ref q9), (0, .ref (ad 0 0)), (1, .int 1), (2, .int x1), (3, .int x2), (4, .int x3), (5, .int x4)]) hx hb dL_act_374 hl (by decide) rfl (fun ls hl => ?_)
  refine lv_bipush (v := -42) hx hb dL_act_376 (by decide) ?_
  refine kend_i S hr hlocks hS rfl dL_act_378
set_option maxHeartbeats 4000000 in
set_option maxRecDepth 100000 in
theorem ax_addCheck3 (ε : kEnv) (l : Launch) {A : Nat → Prop} {ad : Nat → Nat → Nat} {σ : kS} {H : Heap} {x1 x2 x3 x4 : Int32} (hw : kW ε A ad σ H) (hC : kX ε l yX4_addCheck wsX4_addCheck ({ frames := 7, cells := 1, slots := 6, locals := 120 }) [.ref (ad 0 0), .int x1, .int x2, .int x3, .int x4] H "java/lang/IllegalStateException") : kMi ε l yL_act wsL_act ({ frames := 11, cells := 1, slots := 6, locals := 310 }) [.ref (ad 0 0), .int 1, .int x1, .int x2, .int x3, .int x4] H kNo (1) (6) (fun r9 _ => r9 = -43) := by
  refine kofH (cc := cL_act) (maxL := 7) (ret := (some .int)) (hh := [(0, 368, 369, 83), (0, 368, 374, 85), (0, 368, 379, 87)]) (by decide) rfl (Nat.le_of_ble_eq_true rfl) ?_
  intro p e s m below meth c ls S hr hlocks hT hH hE hl
  have S : CallFix p m c cL_act 7 s _ wsL_act RL := S
  have hx := S.1
  have hb := S.2.1
  have hown : s.vm.findClass RL = some m.cls := S.2.2.2.1
  have hts := S.2.2.2.2
  have hK := hE.1
  have hS : va_S kNo s.heap H [] := by rw [hH]; exact va_S.rf
  have hAb : ∀ q, kNo q → kHi ε q := fun _ h => h.elim
  have hl : lv_has ls 7 [(0, .ref (ad 0 0)), (1, .int 1), (2, .int x1), (3, .int x2), (4, .int x3), (5, .int x4)] := hl
  refine lv_iload_n hx hb dL_act_0 rfl (lv_at hl 1 rfl) ?_
  refine lv_if_ne (tgt := 12) hx hb dL_act_1 (by decide) (fun _ => ?_) (fun hc => absurd hc (by decide))
  refine lv_iload_n hx hb dL_act_12 rfl (lv_at hl 1 rfl) ?_
  refine lv_iconst (v := 1) hx hb dL_act_13 (by decide) ?_
  refine lv_icmp_ne (tgt := 30) hx hb dL_act_14 (by decide) (fun hc => absurd (by decide) hc) (fun _ => ?_)
  refine lv_aload_n hx hb dL_act_17 rfl (lv_at hl 0 rfl) ?_
  refine lv_iload_n hx hb dL_act_18 rfl (lv_at hl 2 rfl) ?_
  refine lv_iload_n hx hb dL_act_19 rfl (lv_at hl 3 rfl) ?_
  refine lv_iload hx hb dL_act_20 (lv_at hl 4 rfl) ?_
  refine lv_iload hx hb dL_act_22 (lv_at hl 5 rfl) ?_
  refine kgo_x (kx_V (As := [.int x1, .int x2, .int x3, .int x4]) (rest := []) S hE hS hAb hC (cwV 4 hts gL_act_X4_addCheck rfl rfl rfl (by decide +kernel) ⟨Nat.le_of_ble_eq_true rfl, Nat.le_of_ble_eq_true rfl⟩) (hw.lv 0 0 (rfl : (0 : Nat) = 0)) rfl rfl hl.1 rfl (Nat.le_of_ble_eq_true rfl) dL_act_24 ⟨Nat.le_refl _, Nat.le_refl _⟩) hS (fun ce q9 H1 locs h1 h2 hS h4 h5 h6 => ?_)
  refine kcatch (E := "java/lang/IllegalStateException") [(0, 368, 369, 83), (0, 368, 374, 85)] (0, 368, 379, 87) [] hE hown hT rfl (by decide) (by decide) (fun z hz => by
      simp only [List.mem_cons, List.not_mem_nil, or_false] at hz
      rcases hz with rfl | rfl
      · exact ⟨by decide, "java/lang/IndexOutOfBoundsException", hts (.classLink RL 83 "java/lang/IndexOutOfBoundsException") (by decide +kernel), by decide +kernel⟩
      · exact ⟨by decide, "java/lang/IllegalArgumentException", hts (.classLink RL 85 "java/lang/IllegalArgumentException") (by decide +kernel), by decide +kernel⟩) (hts (.classLink RL 87 "java/lang/IllegalStateException") (by decide +kernel)) (by decide +kernel) h4 h5 h6 ?_
  refine lv_astore (lv' := [(6, .ref q9), (0, .ref (ad 0 0)), (1, .int 1), (2, .int x1), (3, .int x2), (4, .int x3), (5, .int x4)]) hx hb dL_act_379 hl (by decide) rfl (fun ls hl => ?_)
  refine lv_bipush (v := -43) hx hb dL_act_381 (by decide) ?_
  refine kend_i S hr hlocks hS rfl dL_act_383
set_option maxHeartbeats 4000000 in
set_option maxRecDepth 100000 in
theorem ax_setDown1 (ε : kEnv) (l : Launch) {A : Nat → Prop} {ad : Nat → Nat → Nat} {σ : kS} {H : Heap} {x1 x2 x4 : Int32} (hw : kW ε A ad σ H) (hC : kX ε l yX4_setDown wsX4_setDown ({ frames := 7, cells := 1, slots := 6, locals := 120 }) [.ref (ad 0 0), .int x1, .int x2, .int 1] H "java/lang/IndexOutOfBoundsException") : kMi ε l yL_act wsL_act ({ frames := 11, cells := 1, slots := 6, locals := 310 }) [.ref (ad 0 0), .int 2, .int x1, .int x2, .int 1, .int x4] H kNo (1) (6) (fun r9 _ => r9 = -41) := by
  refine kofH (cc := cL_act) (maxL := 7) (ret := (some .int)) (hh := [(0, 368, 369, 83), (0, 368, 374, 85), (0, 368, 379, 87)]) (by decide) rfl (Nat.le_of_ble_eq_true rfl) ?_
  intro p e s m below meth c ls S hr hlocks hT hH hE hl
  have S : CallFix p m c cL_act 7 s _ wsL_act RL := S
  have hx := S.1
  have hb := S.2.1
  have hown : s.vm.findClass RL = some m.cls := S.2.2.2.1
  have hts := S.2.2.2.2
  have hK := hE.1
  have hS : va_S kNo s.heap H [] := by rw [hH]; exact va_S.rf
  have hAb : ∀ q, kNo q → kHi ε q := fun _ h => h.elim
  have hl : lv_has ls 7 [(0, .ref (ad 0 0)), (1, .int 2), (2, .int x1), (3, .int x2), (4, .int 1), (5, .int x4)] := hl
  refine lv_iload_n hx hb dL_act_0 rfl (lv_at hl 1 rfl) ?_
  refine lv_if_ne (tgt := 12) hx hb dL_act_1 (by decide) (fun _ => ?_) (fun hc => absurd hc (by decide))
  refine lv_iload_n hx hb dL_act_12 rfl (lv_at hl 1 rfl) ?_
  refine lv_iconst (v := 1) hx hb dL_act_13 (by decide) ?_
  refine lv_icmp_ne (tgt := 30) hx hb dL_act_14 (by decide) (fun _ => ?_) (fun hc => absurd hc (by decide))
  refine lv_iload_n hx hb dL_act_30 rfl (lv_at hl 1 rfl) ?_
  refine lv_iconst (v := 2) hx hb dL_act_31 (by decide) ?_
  refine lv_icmp_ne (tgt := 63) hx hb dL_act_32 (by decide) (fun hc => absurd (by decide) hc) (fun _ => ?_)
  refine lv_aload_n hx hb dL_act_35 rfl (lv_at hl 0 rfl) ?_
  refine lv_iload_n hx hb dL_act_36 rfl (lv_at hl 2 rfl) ?_
  refine lv_iload_n hx hb dL_act_37 rfl (lv_at hl 3 rfl) ?_
  refine lv_iload hx hb dL_act_38 (lv_at hl 4 rfl) ?_
  refine lv_iconst (v := 1) hx hb dL_act_40 (by decide) ?_
  refine lv_icmp_ne (tgt := 48) hx hb dL_act_41 (by decide) (fun hc => absurd (by decide) hc) (fun _ => ?_)
  refine lv_iconst (v := 1) hx hb dL_act_44 (by decide) ?_
  refine lv_goto (tgt := 49) hx hb dL_act_45 (by decide) ?_
  refine kgo_x (kx_V (As := [.int x1, .int x2, .int 1]) (rest := []) S hE hS hAb hC (cwV 3 hts gL_act_X4_setDown rfl rfl rfl (by decide +kernel) ⟨Nat.le_of_ble_eq_true rfl, Nat.le_of_ble_eq_true rfl⟩) (hw.lv 0 0 (rfl : (0 : Nat) = 0)) rfl rfl hl.1 rfl (Nat.le_of_ble_eq_true rfl) dL_act_49 ⟨Nat.le_refl _, Nat.le_refl _⟩) hS (fun ce q9 H1 locs h1 h2 hS h4 h5 h6 => ?_)
  refine kcatch (E := "java/lang/IndexOutOfBoundsException") [] (0, 368, 369, 83) [(0, 368, 374, 85), (0, 368, 379, 87)] hE hown hT rfl (by decide) (by decide) (fun z hz => by simp at hz) (hts (.classLink RL 83 "java/lang/IndexOutOfBoundsException") (by decide +kernel)) (by decide +kernel) h4 h5 h6 ?_
  refine lv_astore (lv' := [(6, .ref q9), (0, .ref (ad 0 0)), (1, .int 2), (2, .int x1), (3, .int x2), (4, .int 1), (5, .int x4)]) hx hb dL_act_369 hl (by decide) rfl (fun ls hl => ?_)
  refine lv_bipush (v := -41) hx hb dL_act_371 (by decide) ?_
  refine kend_i S hr hlocks hS rfl dL_act_373
set_option maxHeartbeats 4000000 in
set_option maxRecDepth 100000 in
theorem ax_setCut1 (ε : kEnv) (l : Launch) {A : Nat → Prop} {ad : Nat → Nat → Nat} {σ : kS} {H : Heap} {x1 x3 x4 : Int32} (hw : kW ε A ad σ H) (hC : kX ε l yX4_setCut wsX4_setCut ({ frames := 7, cells := 1, slots := 6, locals := 120 }) [.ref (ad 0 0), .int x1, .int 1] H "java/lang/IndexOutOfBoundsException") : kMi ε l yL_act wsL_act ({ frames := 11, cells := 1, slots := 6, locals := 310 }) [.ref (ad 0 0), .int 3, .int x1, .int 1, .int x3, .int x4] H kNo (1) (6) (fun r9 _ => r9 = -41) := by
  refine kofH (cc := cL_act) (maxL := 7) (ret := (some .int)) (hh := [(0, 368, 369, 83), (0, 368, 374, 85), (0, 368, 379, 87)]) (by decide) rfl (Nat.le_of_ble_eq_true rfl) ?_
  intro p e s m below meth c ls S hr hlocks hT hH hE hl
  have S : CallFix p m c cL_act 7 s _ wsL_act RL := S
  have hx := S.1
  have hb := S.2.1
  have hown : s.vm.findClass RL = some m.cls := S.2.2.2.1
  have hts := S.2.2.2.2
  have hK := hE.1
  have hS : va_S kNo s.heap H [] := by rw [hH]; exact va_S.rf
  have hAb : ∀ q, kNo q → kHi ε q := fun _ h => h.elim
  have hl : lv_has ls 7 [(0, .ref (ad 0 0)), (1, .int 3), (2, .int x1), (3, .int 1), (4, .int x3), (5, .int x4)] := hl
  refine lv_iload_n hx hb dL_act_0 rfl (lv_at hl 1 rfl) ?_
  refine lv_if_ne (tgt := 12) hx hb dL_act_1 (by decide) (fun _ => ?_) (fun hc => absurd hc (by decide))
  refine lv_iload_n hx hb dL_act_12 rfl (lv_at hl 1 rfl) ?_
  refine lv_iconst (v := 1) hx hb dL_act_13 (by decide) ?_
  refine lv_icmp_ne (tgt := 30) hx hb dL_act_14 (by decide) (fun _ => ?_) (fun hc => absurd hc (by decide))
  refine lv_iload_n hx hb dL_act_30 rfl (lv_at hl 1 rfl) ?_
  refine lv_iconst (v := 2) hx hb dL_act_31 (by decide) ?_
  refine lv_icmp_ne (tgt := 63) hx hb dL_act_32 (by decide) (fun _ => ?_) (fun hc => absurd hc (by decide))
  refine lv_iload_n hx hb dL_act_63 rfl (lv_at hl 1 rfl) ?_
  refine lv_iconst (v := 3) hx hb dL_act_64 (by decide) ?_
  refine lv_icmp_ne (tgt := 94) hx hb dL_act_65 (by decide) (fun hc => absurd (by decide) hc) (fun _ => ?_)
  refine lv_aload_n hx hb dL_act_68 rfl (lv_at hl 0 rfl) ?_
  refine lv_iload_n hx hb dL_act_69 rfl (lv_at hl 2 rfl) ?_
  refine lv_iload_n hx hb dL_act_70 rfl (lv_at hl 3 rfl) ?_
  refine lv_iconst (v := 1) hx hb dL_act_71 (by decide) ?_
  refine lv_icmp_ne (tgt := 79) hx hb dL_act_72 (by decide) (fun hc => absurd (by decide) hc) (fun _ => ?_)
  refine lv_iconst (v := 1) hx hb dL_act_75 (by decide) ?_
  refine lv_goto (tgt := 80) hx hb dL_act_76 (by decide) ?_
  refine kgo_x (kx_V (As := [.int x1, .int 1]) (rest := []) S hE hS hAb hC (cwV 2 hts gL_act_X4_setCut rfl rfl rfl (by decide +kernel) ⟨Nat.le_of_ble_eq_true rfl, Nat.le_of_ble_eq_true rfl⟩) (hw.lv 0 0 (rfl : (0 : Nat) = 0)) rfl rfl hl.1 rfl (Nat.le_of_ble_eq_true rfl) dL_act_80 ⟨Nat.le_refl _, Nat.le_refl _⟩) hS (fun ce q9 H1 locs h1 h2 hS h4 h5 h6 => ?_)
  refine kcatch (E := "java/lang/IndexOutOfBoundsException") [] (0, 368, 369, 83) [(0, 368, 374, 85), (0, 368, 379, 87)] hE hown hT rfl (by decide) (by decide) (fun z hz => by simp at hz) (hts (.classLink RL 83 "java/lang/IndexOutOfBoundsException") (by decide +kernel)) (by decide +kernel) h4 h5 h6 ?_
  refine lv_astore (lv' := [(6, .ref q9), (0, .ref (ad 0 0)), (1, .int 3), (2, .int x1), (3, .int 1), (4, .int x3), (5, .int x4)]) hx hb dL_act_369 hl (by decide) rfl (fun ls hl => ?_)
  refine lv_bipush (v := -41) hx hb dL_act_371 (by decide) ?_
  refine kend_i S hr hlocks hS rfl dL_act_373
set_option maxHeartbeats 4000000 in
set_option maxRecDepth 100000 in
theorem ax_setQuorum1 (ε : kEnv) (l : Launch) {A : Nat → Prop} {ad : Nat → Nat → Nat} {σ : kS} {H : Heap} {x1 x2 x3 x4 : Int32} (hw : kW ε A ad σ H) (hC : kX ε l yX4_setQuorum wsX4_setQuorum ({ frames := 7, cells := 1, slots := 6, locals := 120 }) [.ref (ad 0 0), .int x1, .int x2] H "java/lang/IndexOutOfBoundsException") : kMi ε l yL_act wsL_act ({ frames := 11, cells := 1, slots := 6, locals := 310 }) [.ref (ad 0 0), .int 4, .int x1, .int x2, .int x3, .int x4] H kNo (1) (6) (fun r9 _ => r9 = -41) := by
  refine kofH (cc := cL_act) (maxL := 7) (ret := (some .int)) (hh := [(0, 368, 369, 83), (0, 368, 374, 85), (0, 368, 379, 87)]) (by decide) rfl (Nat.le_of_ble_eq_true rfl) ?_
  intro p e s m below meth c ls S hr hlocks hT hH hE hl
  have S : CallFix p m c cL_act 7 s _ wsL_act RL := S
  have hx := S.1
  have hb := S.2.1
  have hown : s.vm.findClass RL = some m.cls := S.2.2.2.1
  have hts := S.2.2.2.2
  have hK := hE.1
  have hS : va_S kNo s.heap H [] := by rw [hH]; exact va_S.rf
  have hAb : ∀ q, kNo q → kHi ε q := fun _ h => h.elim
  have hl : lv_has ls 7 [(0, .ref (ad 0 0)), (1, .int 4), (2, .int x1), (3, .int x2), (4, .int x3), (5, .int x4)] := hl
  refine lv_iload_n hx hb dL_act_0 rfl (lv_at hl 1 rfl) ?_
  refine lv_if_ne (tgt := 12) hx hb dL_act_1 (by decide) (fun _ => ?_) (fun hc => absurd hc (by decide))
  refine lv_iload_n hx hb dL_act_12 rfl (lv_at hl 1 rfl) ?_
  refine lv_iconst (v := 1) hx hb dL_act_13 (by decide) ?_
  refine lv_icmp_ne (tgt := 30) hx hb dL_act_14 (by decide) (fun _ => ?_) (fun hc => absurd hc (by decide))
  refine lv_iload_n hx hb dL_act_30 rfl (lv_at hl 1 rfl) ?_
  refine lv_iconst (v := 2) hx hb dL_act_31 (by decide) ?_
  refine lv_icmp_ne (tgt := 63) hx hb dL_act_32 (by decide) (fun _ => ?_) (fun hc => absurd hc (by decide))
  refine lv_iload_n hx hb dL_act_63 rfl (lv_at hl 1 rfl) ?_
  refine lv_iconst (v := 3) hx hb dL_act_64 (by decide) ?_
  refine lv_icmp_ne (tgt := 94) hx hb dL_act_65 (by decide) (fun _ => ?_) (fun hc => absurd hc (by decide))
  refine lv_iload_n hx hb dL_act_94 rfl (lv_at hl 1 rfl) ?_
  refine lv_iconst (v := 4) hx hb dL_act_95 (by decide) ?_
  refine lv_icmp_ne (tgt := 108) hx hb dL_act_96 (by decide) (fun hc => absurd (by decide) hc) (fun _ => ?_)
  refine lv_aload_n hx hb dL_act_99 rfl (lv_at hl 0 rfl) ?_
  refine lv_iload_n hx hb dL_act_100 rfl (lv_at hl 2 rfl) ?_
  refine lv_iload_n hx hb dL_act_101 rfl (lv_at hl 3 rfl) ?_
  refine kgo_x (kx_V (As := [.int x1, .int x2]) (rest := []) S hE hS hAb hC (cwV 2 hts gL_act_X4_setQuorum rfl rfl rfl (by decide +kernel) ⟨Nat.le_of_ble_eq_true rfl, Nat.le_of_ble_eq_true rfl⟩) (hw.lv 0 0 (rfl : (0 : Nat) = 0)) rfl rfl hl.1 rfl (Nat.le_of_ble_eq_true rfl) dL_act_102 ⟨Nat.le_refl _, Nat.le_refl _⟩) hS (fun ce q9 H1 locs h1 h2 hS h4 h5 h6 => ?_)
  refine kcatch (E := "java/lang/IndexOutOfBoundsException") [] (0, 368, 369, 83) [(0, 368, 374, 85), (0, 368, 379, 87)] hE hown hT rfl (by decide) (by decide) (fun z hz => by simp at hz) (hts (.classLink RL 83 "java/lang/IndexOutOfBoundsException") (by decide +kernel)) (by decide +kernel) h4 h5 h6 ?_
  refine lv_astore (lv' := [(6, .ref q9), (0, .ref (ad 0 0)), (1, .int 4), (2, .int x1), (3, .int x2), (4, .int x3), (5, .int x4)]) hx hb dL_act_369 hl (by decide) rfl (fun ls hl => ?_)
  refine lv_bipush (v := -41) hx hb dL_act_371 (by decide) ?_
  refine kend_i S hr hlocks hS rfl dL_act_373
set_option maxHeartbeats 4000000 in
set_option maxRecDepth 100000 in
theorem ax_setQuorum2 (ε : kEnv) (l : Launch) {A : Nat → Prop} {ad : Nat → Nat → Nat} {σ : kS} {H : Heap} {x1 x2 x3 x4 : Int32} (hw : kW ε A ad σ H) (hC : kX ε l yX4_setQuorum wsX4_setQuorum ({ frames := 7, cells := 1, slots := 6, locals := 120 }) [.ref (ad 0 0), .int x1, .int x2] H "java/lang/IllegalArgumentException") : kMi ε l yL_act wsL_act ({ frames := 11, cells := 1, slots := 6, locals := 310 }) [.ref (ad 0 0), .int 4, .int x1, .int x2, .int x3, .int x4] H kNo (1) (6) (fun r9 _ => r9 = -42) := by
  refine kofH (cc := cL_act) (maxL := 7) (ret := (some .int)) (hh := [(0, 368, 369, 83), (0, 368, 374, 85), (0, 368, 379, 87)]) (by decide) rfl (Nat.le_of_ble_eq_true rfl) ?_
  intro p e s m below meth c ls S hr hlocks hT hH hE hl
  have S : CallFix p m c cL_act 7 s _ wsL_act RL := S
  have hx := S.1
  have hb := S.2.1
  have hown : s.vm.findClass RL = some m.cls := S.2.2.2.1
  have hts := S.2.2.2.2
  have hK := hE.1
  have hS : va_S kNo s.heap H [] := by rw [hH]; exact va_S.rf
  have hAb : ∀ q, kNo q → kHi ε q := fun _ h => h.elim
  have hl : lv_has ls 7 [(0, .ref (ad 0 0)), (1, .int 4), (2, .int x1), (3, .int x2), (4, .int x3), (5, .int x4)] := hl
  refine lv_iload_n hx hb dL_act_0 rfl (lv_at hl 1 rfl) ?_
  refine lv_if_ne (tgt := 12) hx hb dL_act_1 (by decide) (fun _ => ?_) (fun hc => absurd hc (by decide))
  refine lv_iload_n hx hb dL_act_12 rfl (lv_at hl 1 rfl) ?_
  refine lv_iconst (v := 1) hx hb dL_act_13 (by decide) ?_
  refine lv_icmp_ne (tgt := 30) hx hb dL_act_14 (by decide) (fun _ => ?_) (fun hc => absurd hc (by decide))
  refine lv_iload_n hx hb dL_act_30 rfl (lv_at hl 1 rfl) ?_
  refine lv_iconst (v := 2) hx hb dL_act_31 (by decide) ?_
  refine lv_icmp_ne (tgt := 63) hx hb dL_act_32 (by decide) (fun _ => ?_) (fun hc => absurd hc (by decide))
  refine lv_iload_n hx hb dL_act_63 rfl (lv_at hl 1 rfl) ?_
  refine lv_iconst (v := 3) hx hb dL_act_64 (by decide) ?_
  refine lv_icmp_ne (tgt := 94) hx hb dL_act_65 (by decide) (fun _ => ?_) (fun hc => absurd hc (by decide))
  refine lv_iload_n hx hb dL_act_94 rfl (lv_at hl 1 rfl) ?_
  refine lv_iconst (v := 4) hx hb dL_act_95 (by decide) ?_
  refine lv_icmp_ne (tgt := 108) hx hb dL_act_96 (by decide) (fun hc => absurd (by decide) hc) (fun _ => ?_)
  refine lv_aload_n hx hb dL_act_99 rfl (lv_at hl 0 rfl) ?_
  refine lv_iload_n hx hb dL_act_100 rfl (lv_at hl 2 rfl) ?_
  refine lv_iload_n hx hb dL_act_101 rfl (lv_at hl 3 rfl) ?_
  refine kgo_x (kx_V (As := [.int x1, .int x2]) (rest := []) S hE hS hAb hC (cwV 2 hts gL_act_X4_setQuorum rfl rfl rfl (by decide +kernel) ⟨Nat.le_of_ble_eq_true rfl, Nat.le_of_ble_eq_true rfl⟩) (hw.lv 0 0 (rfl : (0 : Nat) = 0)) rfl rfl hl.1 rfl (Nat.le_of_ble_eq_true rfl) dL_act_102 ⟨Nat.le_refl _, Nat.le_refl _⟩) hS (fun ce q9 H1 locs h1 h2 hS h4 h5 h6 => ?_)
  refine kcatch (E := "java/lang/IllegalArgumentException") [(0, 368, 369, 83)] (0, 368, 374, 85) [(0, 368, 379, 87)] hE hown hT rfl (by decide) (by decide) (fun z hz => by
      simp only [List.mem_cons, List.not_mem_nil, or_false] at hz
      rcases hz with rfl
      · exact ⟨by decide, "java/lang/IndexOutOfBoundsException", hts (.classLink RL 83 "java/lang/IndexOutOfBoundsException") (by decide +kernel), by decide +kernel⟩) (hts (.classLink RL 85 "java/lang/IllegalArgumentException") (by decide +kernel)) (by decide +kernel) h4 h5 h6 ?_
  refine lv_astore (lv' := [(6, .ref q9), (0, .ref (ad 0 0)), (1, .int 4), (2, .int x1), (3, .int x2), (4, .int x3), (5, .int x4)]) hx hb dL_act_374 hl (by decide) rfl (fun ls hl => ?_)
  refine lv_bipush (v := -42) hx hb dL_act_376 (by decide) ?_
  refine kend_i S hr hlocks hS rfl dL_act_378
set_option maxHeartbeats 4000000 in
set_option maxRecDepth 100000 in
theorem ax_addWindow1 (ε : kEnv) (l : Launch) {A : Nat → Prop} {ad : Nat → Nat → Nat} {σ : kS} {H : Heap} {x1 x2 x3 x4 : Int32} (hw : kW ε A ad σ H) (hC : kX ε l yX4_addWindow wsX4_addWindow ({ frames := 7, cells := 1, slots := 6, locals := 120 }) [.ref (ad 0 0), .int x1, .int x2, .int x3] H "java/lang/IndexOutOfBoundsException") : kMi ε l yL_act wsL_act ({ frames := 11, cells := 1, slots := 6, locals := 310 }) [.ref (ad 0 0), .int 5, .int x1, .int x2, .int x3, .int x4] H kNo (1) (6) (fun r9 _ => r9 = -41) := by
  refine kofH (cc := cL_act) (maxL := 7) (ret := (some .int)) (hh := [(0, 368, 369, 83), (0, 368, 374, 85), (0, 368, 379, 87)]) (by decide) rfl (Nat.le_of_ble_eq_true rfl) ?_
  intro p e s m below meth c ls S hr hlocks hT hH hE hl
  have S : CallFix p m c cL_act 7 s _ wsL_act RL := S
  have hx := S.1
  have hb := S.2.1
  have hown : s.vm.findClass RL = some m.cls := S.2.2.2.1
  have hts := S.2.2.2.2
  have hK := hE.1
  have hS : va_S kNo s.heap H [] := by rw [hH]; exact va_S.rf
  have hAb : ∀ q, kNo q → kHi ε q := fun _ h => h.elim
  have hl : lv_has ls 7 [(0, .ref (ad 0 0)), (1, .int 5), (2, .int x1), (3, .int x2), (4, .int x3), (5, .int x4)] := hl
  refine lv_iload_n hx hb dL_act_0 rfl (lv_at hl 1 rfl) ?_
  refine lv_if_ne (tgt := 12) hx hb dL_act_1 (by decide) (fun _ => ?_) (fun hc => absurd hc (by decide))
  refine lv_iload_n hx hb dL_act_12 rfl (lv_at hl 1 rfl) ?_
  refine lv_iconst (v := 1) hx hb dL_act_13 (by decide) ?_
  refine lv_icmp_ne (tgt := 30) hx hb dL_act_14 (by decide) (fun _ => ?_) (fun hc => absurd hc (by decide))
  refine lv_iload_n hx hb dL_act_30 rfl (lv_at hl 1 rfl) ?_
  refine lv_iconst (v := 2) hx hb dL_act_31 (by decide) ?_
  refine lv_icmp_ne (tgt := 63) hx hb dL_act_32 (by decide) (fun _ => ?_) (fun hc => absurd hc (by decide))
  refine lv_iload_n hx hb dL_act_63 rfl (lv_at hl 1 rfl) ?_
  refine lv_iconst (v := 3) hx hb dL_act_64 (by decide) ?_
  refine lv_icmp_ne (tgt := 94) hx hb dL_act_65 (by decide) (fun _ => ?_) (fun hc => absurd hc (by decide))
  refine lv_iload_n hx hb dL_act_94 rfl (lv_at hl 1 rfl) ?_
  refine lv_iconst (v := 4) hx hb dL_act_95 (by decide) ?_
  refine lv_icmp_ne (tgt := 108) hx hb dL_act_96 (by decide) (fun _ => ?_) (fun hc => absurd hc (by decide))
  refine lv_iload_n hx hb dL_act_108 rfl (lv_at hl 1 rfl) ?_
  refine lv_iconst (v := 5) hx hb dL_act_109 (by decide) ?_
  refine lv_icmp_ne (tgt := 124) hx hb dL_act_110 (by decide) (fun hc => absurd (by decide) hc) (fun _ => ?_)
  refine lv_aload_n hx hb dL_act_113 rfl (lv_at hl 0 rfl) ?_
  refine lv_iload_n hx hb dL_act_114 rfl (lv_at hl 2 rfl) ?_
  refine lv_iload_n hx hb dL_act_115 rfl (lv_at hl 3 rfl) ?_
  refine lv_iload hx hb dL_act_116 (lv_at hl 4 rfl) ?_
  refine kgo_x (kx_V (As := [.int x1, .int x2, .int x3]) (rest := []) S hE hS hAb hC (cwV 3 hts gL_act_X4_addWindow rfl rfl rfl (by decide +kernel) ⟨Nat.le_of_ble_eq_true rfl, Nat.le_of_ble_eq_true rfl⟩) (hw.lv 0 0 (rfl : (0 : Nat) = 0)) rfl rfl hl.1 rfl (Nat.le_of_ble_eq_true rfl) dL_act_118 ⟨Nat.le_refl _, Nat.le_refl _⟩) hS (fun ce q9 H1 locs h1 h2 hS h4 h5 h6 => ?_)
  refine kcatch (E := "java/lang/IndexOutOfBoundsException") [] (0, 368, 369, 83) [(0, 368, 374, 85), (0, 368, 379, 87)] hE hown hT rfl (by decide) (by decide) (fun z hz => by simp at hz) (hts (.classLink RL 83 "java/lang/IndexOutOfBoundsException") (by decide +kernel)) (by decide +kernel) h4 h5 h6 ?_
  refine lv_astore (lv' := [(6, .ref q9), (0, .ref (ad 0 0)), (1, .int 5), (2, .int x1), (3, .int x2), (4, .int x3), (5, .int x4)]) hx hb dL_act_369 hl (by decide) rfl (fun ls hl => ?_)
  refine lv_bipush (v := -41) hx hb dL_act_371 (by decide) ?_
  refine kend_i S hr hlocks hS rfl dL_act_373
set_option maxHeartbeats 4000000 in
set_option maxRecDepth 100000 in
theorem ax_addWindow2 (ε : kEnv) (l : Launch) {A : Nat → Prop} {ad : Nat → Nat → Nat} {σ : kS} {H : Heap} {x1 x2 x3 x4 : Int32} (hw : kW ε A ad σ H) (hC : kX ε l yX4_addWindow wsX4_addWindow ({ frames := 7, cells := 1, slots := 6, locals := 120 }) [.ref (ad 0 0), .int x1, .int x2, .int x3] H "java/lang/IllegalArgumentException") : kMi ε l yL_act wsL_act ({ frames := 11, cells := 1, slots := 6, locals := 310 }) [.ref (ad 0 0), .int 5, .int x1, .int x2, .int x3, .int x4] H kNo (1) (6) (fun r9 _ => r9 = -42) := by
  refine kofH (cc := cL_act) (maxL := 7) (ret := (some .int)) (hh := [(0, 368, 369, 83), (0, 368, 374, 85), (0, 368, 379, 87)]) (by decide) rfl (Nat.le_of_ble_eq_true rfl) ?_
  intro p e s m below meth c ls S hr hlocks hT hH hE hl
  have S : CallFix p m c cL_act 7 s _ wsL_act RL := S
  have hx := S.1
  have hb := S.2.1
  have hown : s.vm.findClass RL = some m.cls := S.2.2.2.1
  have hts := S.2.2.2.2
  have hK := hE.1
  have hS : va_S kNo s.heap H [] := by rw [hH]; exact va_S.rf
  have hAb : ∀ q, kNo q → kHi ε q := fun _ h => h.elim
  have hl : lv_has ls 7 [(0, .ref (ad 0 0)), (1, .int 5), (2, .int x1), (3, .int x2), (4, .int x3), (5, .int x4)] := hl
  refine lv_iload_n hx hb dL_act_0 rfl (lv_at hl 1 rfl) ?_
  refine lv_if_ne (tgt := 12) hx hb dL_act_1 (by decide) (fun _ => ?_) (fun hc => absurd hc (by decide))
  refine lv_iload_n hx hb dL_act_12 rfl (lv_at hl 1 rfl) ?_
  refine lv_iconst (v := 1) hx hb dL_act_13 (by decide) ?_
  refine lv_icmp_ne (tgt := 30) hx hb dL_act_14 (by decide) (fun _ => ?_) (fun hc => absurd hc (by decide))
  refine lv_iload_n hx hb dL_act_30 rfl (lv_at hl 1 rfl) ?_
  refine lv_iconst (v := 2) hx hb dL_act_31 (by decide) ?_
  refine lv_icmp_ne (tgt := 63) hx hb dL_act_32 (by decide) (fun _ => ?_) (fun hc => absurd hc (by decide))
  refine lv_iload_n hx hb dL_act_63 rfl (lv_at hl 1 rfl) ?_
  refine lv_iconst (v := 3) hx hb dL_act_64 (by decide) ?_
  refine lv_icmp_ne (tgt := 94) hx hb dL_act_65 (by decide) (fun _ => ?_) (fun hc => absurd hc (by decide))
  refine lv_iload_n hx hb dL_act_94 rfl (lv_at hl 1 rfl) ?_
  refine lv_iconst (v := 4) hx hb dL_act_95 (by decide) ?_
  refine lv_icmp_ne (tgt := 108) hx hb dL_act_96 (by decide) (fun _ => ?_) (fun hc => absurd hc (by decide))
  refine lv_iload_n hx hb dL_act_108 rfl (lv_at hl 1 rfl) ?_
  refine lv_iconst (v := 5) hx hb dL_act_109 (by decide) ?_
  refine lv_icmp_ne (tgt := 124) hx hb dL_act_110 (by decide) (fun hc => absurd (by decide) hc) (fun _ => ?_)
  refine lv_aload_n hx hb dL_act_113 rfl (lv_at hl 0 rfl) ?_
  refine lv_iload_n hx hb dL_act_114 rfl (lv_at hl 2 rfl) ?_
  refine lv_iload_n hx hb dL_act_115 rfl (lv_at hl 3 rfl) ?_
  refine lv_iload hx hb dL_act_116 (lv_at hl 4 rfl) ?_
  refine kgo_x (kx_V (As := [.int x1, .int x2, .int x3]) (rest := []) S hE hS hAb hC (cwV 3 hts gL_act_X4_addWindow rfl rfl rfl (by decide +kernel) ⟨Nat.le_of_ble_eq_true rfl, Nat.le_of_ble_eq_true rfl⟩) (hw.lv 0 0 (rfl : (0 : Nat) = 0)) rfl rfl hl.1 rfl (Nat.le_of_ble_eq_true rfl) dL_act_118 ⟨Nat.le_refl _, Nat.le_refl _⟩) hS (fun ce q9 H1 locs h1 h2 hS h4 h5 h6 => ?_)
  refine kcatch (E := "java/lang/IllegalArgumentException") [(0, 368, 369, 83)] (0, 368, 374, 85) [(0, 368, 379, 87)] hE hown hT rfl (by decide) (by decide) (fun z hz => by
      simp only [List.mem_cons, List.not_mem_nil, or_false] at hz
      rcases hz with rfl
      · exact ⟨by decide, "java/lang/IndexOutOfBoundsException", hts (.classLink RL 83 "java/lang/IndexOutOfBoundsException") (by decide +kernel), by decide +kernel⟩) (hts (.classLink RL 85 "java/lang/IllegalArgumentException") (by decide +kernel)) (by decide +kernel) h4 h5 h6 ?_
  refine lv_astore (lv' := [(6, .ref q9), (0, .ref (ad 0 0)), (1, .int 5), (2, .int x1), (3, .int x2), (4, .int x3), (5, .int x4)]) hx hb dL_act_374 hl (by decide) rfl (fun ls hl => ?_)
  refine lv_bipush (v := -42) hx hb dL_act_376 (by decide) ?_
  refine kend_i S hr hlocks hS rfl dL_act_378
set_option maxHeartbeats 4000000 in
set_option maxRecDepth 100000 in
theorem ax_addWindow3 (ε : kEnv) (l : Launch) {A : Nat → Prop} {ad : Nat → Nat → Nat} {σ : kS} {H : Heap} {x1 x2 x3 x4 : Int32} (hw : kW ε A ad σ H) (hC : kX ε l yX4_addWindow wsX4_addWindow ({ frames := 7, cells := 1, slots := 6, locals := 120 }) [.ref (ad 0 0), .int x1, .int x2, .int x3] H "java/lang/IllegalStateException") : kMi ε l yL_act wsL_act ({ frames := 11, cells := 1, slots := 6, locals := 310 }) [.ref (ad 0 0), .int 5, .int x1, .int x2, .int x3, .int x4] H kNo (1) (6) (fun r9 _ => r9 = -43) := by
  refine kofH (cc := cL_act) (maxL := 7) (ret := (some .int)) (hh := [(0, 368, 369, 83), (0, 368, 374, 85), (0, 368, 379, 87)]) (by decide) rfl (Nat.le_of_ble_eq_true rfl) ?_
  intro p e s m below meth c ls S hr hlocks hT hH hE hl
  have S : CallFix p m c cL_act 7 s _ wsL_act RL := S
  have hx := S.1
  have hb := S.2.1
  have hown : s.vm.findClass RL = some m.cls := S.2.2.2.1
  have hts := S.2.2.2.2
  have hK := hE.1
  have hS : va_S kNo s.heap H [] := by rw [hH]; exact va_S.rf
  have hAb : ∀ q, kNo q → kHi ε q := fun _ h => h.elim
  have hl : lv_has ls 7 [(0, .ref (ad 0 0)), (1, .int 5), (2, .int x1), (3, .int x2), (4, .int x3), (5, .int x4)] := hl
  refine lv_iload_n hx hb dL_act_0 rfl (lv_at hl 1 rfl) ?_
  refine lv_if_ne (tgt := 12) hx hb dL_act_1 (by decide) (fun _ => ?_) (fun hc => absurd hc (by decide))
  refine lv_iload_n hx hb dL_act_12 rfl (lv_at hl 1 rfl) ?_
  refine lv_iconst (v := 1) hx hb dL_act_13 (by decide) ?_
  refine lv_icmp_ne (tgt := 30) hx hb dL_act_14 (by decide) (fun _ => ?_) (fun hc => absurd hc (by decide))
  refine lv_iload_n hx hb dL_act_30 rfl (lv_at hl 1 rfl) ?_
  refine lv_iconst (v := 2) hx hb dL_act_31 (by decide) ?_
  refine lv_icmp_ne (tgt := 63) hx hb dL_act_32 (by decide) (fun _ => ?_) (fun hc => absurd hc (by decide))
  refine lv_iload_n hx hb dL_act_63 rfl (lv_at hl 1 rfl) ?_
  refine lv_iconst (v := 3) hx hb dL_act_64 (by decide) ?_
  refine lv_icmp_ne (tgt := 94) hx hb dL_act_65 (by decide) (fun _ => ?_) (fun hc => absurd hc (by decide))
  refine lv_iload_n hx hb dL_act_94 rfl (lv_at hl 1 rfl) ?_
  refine lv_iconst (v := 4) hx hb dL_act_95 (by decide) ?_
  refine lv_icmp_ne (tgt := 108) hx hb dL_act_96 (by decide) (fun _ => ?_) (fun hc => absurd hc (by decide))
  refine lv_iload_n hx hb dL_act_108 rfl (lv_at hl 1 rfl) ?_
  refine lv_iconst (v := 5) hx hb dL_act_109 (by decide) ?_
  refine lv_icmp_ne (tgt := 124) hx hb dL_act_110 (by decide) (fun hc => absurd (by decide) hc) (fun _ => ?_)
  refine lv_aload_n hx hb dL_act_113 rfl (lv_at hl 0 rfl) ?_
  refine lv_iload_n hx hb dL_act_114 rfl (lv_at hl 2 rfl) ?_
  refine lv_iload_n hx hb dL_act_115 rfl (lv_at hl 3 rfl) ?_
  refine lv_iload hx hb dL_act_116 (lv_at hl 4 rfl) ?_
  refine kgo_x (kx_V (As := [.int x1, .int x2, .int x3]) (rest := []) S hE hS hAb hC (cwV 3 hts gL_act_X4_addWindow rfl rfl rfl (by decide +kernel) ⟨Nat.le_of_ble_eq_true rfl, Nat.le_of_ble_eq_true rfl⟩) (hw.lv 0 0 (rfl : (0 : Nat) = 0)) rfl rfl hl.1 rfl (Nat.le_of_ble_eq_true rfl) dL_act_118 ⟨Nat.le_refl _, Nat.le_refl _⟩) hS (fun ce q9 H1 locs h1 h2 hS h4 h5 h6 => ?_)
  refine kcatch (E := "java/lang/IllegalStateException") [(0, 368, 369, 83), (0, 368, 374, 85)] (0, 368, 379, 87) [] hE hown hT rfl (by decide) (by decide) (fun z hz => by
      simp only [List.mem_cons, List.not_mem_nil, or_false] at hz
      rcases hz with rfl | rfl
      · exact ⟨by decide, "java/lang/IndexOutOfBoundsException", hts (.classLink RL 83 "java/lang/IndexOutOfBoundsException") (by decide +kernel), by decide +kernel⟩
      · exact ⟨by decide, "java/lang/IllegalArgumentException", hts (.classLink RL 85 "java/lang/IllegalArgumentException") (by decide +kernel), by decide +kernel⟩) (hts (.classLink RL 87 "java/lang/IllegalStateException") (by decide +kernel)) (by decide +kernel) h4 h5 h6 ?_
  refine lv_astore (lv' := [(6, .ref q9), (0, .ref (ad 0 0)), (1, .int 5), (2, .int x1), (3, .int x2), (4, .int x3), (5, .int x4)]) hx hb dL_act_379 hl (by decide) rfl (fun ls hl => ?_)
  refine lv_bipush (v := -43) hx hb dL_act_381 (by decide) ?_
  refine kend_i S hr hlocks hS rfl dL_act_383
set_option maxHeartbeats 4000000 in
set_option maxRecDepth 100000 in
theorem ax_endWindow1 (ε : kEnv) (l : Launch) {A : Nat → Prop} {ad : Nat → Nat → Nat} {σ : kS} {H : Heap} {x1 x2 x3 x4 : Int32} (hw : kW ε A ad σ H) (hC : kX ε l yX4_endWindow wsX4_endWindow ({ frames := 7, cells := 1, slots := 6, locals := 120 }) [.ref (ad 0 0), .int x1] H "java/lang/IndexOutOfBoundsException") : kMi ε l yL_act wsL_act ({ frames := 11, cells := 1, slots := 6, locals := 310 }) [.ref (ad 0 0), .int 6, .int x1, .int x2, .int x3, .int x4] H kNo (1) (6) (fun r9 _ => r9 = -41) := by
  refine kofH (cc := cL_act) (maxL := 7) (ret := (some .int)) (hh := [(0, 368, 369, 83), (0, 368, 374, 85), (0, 368, 379, 87)]) (by decide) rfl (Nat.le_of_ble_eq_true rfl) ?_
  intro p e s m below meth c ls S hr hlocks hT hH hE hl
  have S : CallFix p m c cL_act 7 s _ wsL_act RL := S
  have hx := S.1
  have hb := S.2.1
  have hown : s.vm.findClass RL = some m.cls := S.2.2.2.1
  have hts := S.2.2.2.2
  have hK := hE.1
  have hS : va_S kNo s.heap H [] := by rw [hH]; exact va_S.rf
  have hAb : ∀ q, kNo q → kHi ε q := fun _ h => h.elim
  have hl : lv_has ls 7 [(0, .ref (ad 0 0)), (1, .int 6), (2, .int x1), (3, .int x2), (4, .int x3), (5, .int x4)] := hl
  refine lv_iload_n hx hb dL_act_0 rfl (lv_at hl 1 rfl) ?_
  refine lv_if_ne (tgt := 12) hx hb dL_act_1 (by decide) (fun _ => ?_) (fun hc => absurd hc (by decide))
  refine lv_iload_n hx hb dL_act_12 rfl (lv_at hl 1 rfl) ?_
  refine lv_iconst (v := 1) hx hb dL_act_13 (by decide) ?_
  refine lv_icmp_ne (tgt := 30) hx hb dL_act_14 (by decide) (fun _ => ?_) (fun hc => absurd hc (by decide))
  refine lv_iload_n hx hb dL_act_30 rfl (lv_at hl 1 rfl) ?_
  refine lv_iconst (v := 2) hx hb dL_act_31 (by decide) ?_
  refine lv_icmp_ne (tgt := 63) hx hb dL_act_32 (by decide) (fun _ => ?_) (fun hc => absurd hc (by decide))
  refine lv_iload_n hx hb dL_act_63 rfl (lv_at hl 1 rfl) ?_
  refine lv_iconst (v := 3) hx hb dL_act_64 (by decide) ?_
  refine lv_icmp_ne (tgt := 94) hx hb dL_act_65 (by decide) (fun _ => ?_) (fun hc => absurd hc (by decide))
  refine lv_iload_n hx hb dL_act_94 rfl (lv_at hl 1 rfl) ?_
  refine lv_iconst (v := 4) hx hb dL_act_95 (by decide) ?_
  refine lv_icmp_ne (tgt := 108) hx hb dL_act_96 (by decide) (fun _ => ?_) (fun hc => absurd hc (by decide))
  refine lv_iload_n hx hb dL_act_108 rfl (lv_at hl 1 rfl) ?_
  refine lv_iconst (v := 5) hx hb dL_act_109 (by decide) ?_
  refine lv_icmp_ne (tgt := 124) hx hb dL_act_110 (by decide) (fun _ => ?_) (fun hc => absurd hc (by decide))
  refine lv_iload_n hx hb dL_act_124 rfl (lv_at hl 1 rfl) ?_
  refine lv_bipush (v := 6) hx hb dL_act_125 (by decide) ?_
  refine lv_icmp_ne (tgt := 138) hx hb dL_act_127 (by decide) (fun hc => absurd (by decide) hc) (fun _ => ?_)
  refine lv_aload_n hx hb dL_act_130 rfl (lv_at hl 0 rfl) ?_
  refine lv_iload_n hx hb dL_act_131 rfl (lv_at hl 2 rfl) ?_
  refine kgo_x (kx_V (As := [.int x1]) (rest := []) S hE hS hAb hC (cwV 1 hts gL_act_X4_endWindow rfl rfl rfl (by decide +kernel) ⟨Nat.le_of_ble_eq_true rfl, Nat.le_of_ble_eq_true rfl⟩) (hw.lv 0 0 (rfl : (0 : Nat) = 0)) rfl rfl hl.1 rfl (Nat.le_of_ble_eq_true rfl) dL_act_132 ⟨Nat.le_refl _, Nat.le_refl _⟩) hS (fun ce q9 H1 locs h1 h2 hS h4 h5 h6 => ?_)
  refine kcatch (E := "java/lang/IndexOutOfBoundsException") [] (0, 368, 369, 83) [(0, 368, 374, 85), (0, 368, 379, 87)] hE hown hT rfl (by decide) (by decide) (fun z hz => by simp at hz) (hts (.classLink RL 83 "java/lang/IndexOutOfBoundsException") (by decide +kernel)) (by decide +kernel) h4 h5 h6 ?_
  refine lv_astore (lv' := [(6, .ref q9), (0, .ref (ad 0 0)), (1, .int 6), (2, .int x1), (3, .int x2), (4, .int x3), (5, .int x4)]) hx hb dL_act_369 hl (by decide) rfl (fun ls hl => ?_)
  refine lv_bipush (v := -41) hx hb dL_act_371 (by decide) ?_
  refine kend_i S hr hlocks hS rfl dL_act_373
set_option maxHeartbeats 4000000 in
set_option maxRecDepth 100000 in
theorem ax_pass2 (ε : kEnv) (l : Launch) {A : Nat → Prop} {ad : Nat → Nat → Nat} {σ : kS} {H : Heap} {x1 x2 x3 x4 : Int32} (hw : kW ε A ad σ H) (hC : kX ε l yX4_pass wsX4_pass ({ frames := 7, cells := 1, slots := 6, locals := 120 }) [.ref (ad 0 0), .int x1] H "java/lang/IllegalArgumentException") : kMi ε l yL_act wsL_act ({ frames := 11, cells := 1, slots := 6, locals := 310 }) [.ref (ad 0 0), .int 7, .int x1, .int x2, .int x3, .int x4] H kNo (1) (6) (fun r9 _ => r9 = -42) := by
  refine kofH (cc := cL_act) (maxL := 7) (ret := (some .int)) (hh := [(0, 368, 369, 83), (0, 368, 374, 85), (0, 368, 379, 87)]) (by decide) rfl (Nat.le_of_ble_eq_true rfl) ?_
  intro p e s m below meth c ls S hr hlocks hT hH hE hl
  have S : CallFix p m c cL_act 7 s _ wsL_act RL := S
  have hx := S.1
  have hb := S.2.1
  have hown : s.vm.findClass RL = some m.cls := S.2.2.2.1
  have hts := S.2.2.2.2
  have hK := hE.1
  have hS : va_S kNo s.heap H [] := by rw [hH]; exact va_S.rf
  have hAb : ∀ q, kNo q → kHi ε q := fun _ h => h.elim
  have hl : lv_has ls 7 [(0, .ref (ad 0 0)), (1, .int 7), (2, .int x1), (3, .int x2), (4, .int x3), (5, .int x4)] := hl
  refine lv_iload_n hx hb dL_act_0 rfl (lv_at hl 1 rfl) ?_
  refine lv_if_ne (tgt := 12) hx hb dL_act_1 (by decide) (fun _ => ?_) (fun hc => absurd hc (by decide))
  refine lv_iload_n hx hb dL_act_12 rfl (lv_at hl 1 rfl) ?_
  refine lv_iconst (v := 1) hx hb dL_act_13 (by decide) ?_
  refine lv_icmp_ne (tgt := 30) hx hb dL_act_14 (by decide) (fun _ => ?_) (fun hc => absurd hc (by decide))
  refine lv_iload_n hx hb dL_act_30 rfl (lv_at hl 1 rfl) ?_
  refine lv_iconst (v := 2) hx hb dL_act_31 (by decide) ?_
  refine lv_icmp_ne (tgt := 63) hx hb dL_act_32 (by decide) (fun _ => ?_) (fun hc => absurd hc (by decide))
  refine lv_iload_n hx hb dL_act_63 rfl (lv_at hl 1 rfl) ?_
  refine lv_iconst (v := 3) hx hb dL_act_64 (by decide) ?_
  refine lv_icmp_ne (tgt := 94) hx hb dL_act_65 (by decide) (fun _ => ?_) (fun hc => absurd hc (by decide))
  refine lv_iload_n hx hb dL_act_94 rfl (lv_at hl 1 rfl) ?_
  refine lv_iconst (v := 4) hx hb dL_act_95 (by decide) ?_
  refine lv_icmp_ne (tgt := 108) hx hb dL_act_96 (by decide) (fun _ => ?_) (fun hc => absurd hc (by decide))
  refine lv_iload_n hx hb dL_act_108 rfl (lv_at hl 1 rfl) ?_
  refine lv_iconst (v := 5) hx hb dL_act_109 (by decide) ?_
  refine lv_icmp_ne (tgt := 124) hx hb dL_act_110 (by decide) (fun _ => ?_) (fun hc => absurd hc (by decide))
  refine lv_iload_n hx hb dL_act_124 rfl (lv_at hl 1 rfl) ?_
  refine lv_bipush (v := 6) hx hb dL_act_125 (by decide) ?_
  refine lv_icmp_ne (tgt := 138) hx hb dL_act_127 (by decide) (fun _ => ?_) (fun hc => absurd hc (by decide))
  refine lv_iload_n hx hb dL_act_138 rfl (lv_at hl 1 rfl) ?_
  refine lv_bipush (v := 7) hx hb dL_act_139 (by decide) ?_
  refine lv_icmp_ne (tgt := 152) hx hb dL_act_141 (by decide) (fun hc => absurd (by decide) hc) (fun _ => ?_)
  refine lv_aload_n hx hb dL_act_144 rfl (lv_at hl 0 rfl) ?_
  refine lv_iload_n hx hb dL_act_145 rfl (lv_at hl 2 rfl) ?_
  refine kgo_x (kx_V (As := [.int x1]) (rest := []) S hE hS hAb hC (cwV 1 hts gL_act_X4_pass rfl rfl rfl (by decide +kernel) ⟨Nat.le_of_ble_eq_true rfl, Nat.le_of_ble_eq_true rfl⟩) (hw.lv 0 0 (rfl : (0 : Nat) = 0)) rfl rfl hl.1 rfl (Nat.le_of_ble_eq_true rfl) dL_act_146 ⟨Nat.le_refl _, Nat.le_refl _⟩) hS (fun ce q9 H1 locs h1 h2 hS h4 h5 h6 => ?_)
  refine kcatch (E := "java/lang/IllegalArgumentException") [(0, 368, 369, 83)] (0, 368, 374, 85) [(0, 368, 379, 87)] hE hown hT rfl (by decide) (by decide) (fun z hz => by
      simp only [List.mem_cons, List.not_mem_nil, or_false] at hz
      rcases hz with rfl
      · exact ⟨by decide, "java/lang/IndexOutOfBoundsException", hts (.classLink RL 83 "java/lang/IndexOutOfBoundsException") (by decide +kernel), by decide +kernel⟩) (hts (.classLink RL 85 "java/lang/IllegalArgumentException") (by decide +kernel)) (by decide +kernel) h4 h5 h6 ?_
  refine lv_astore (lv' := [(6, .ref q9), (0, .ref (ad 0 0)), (1, .int 7), (2, .int x1), (3, .int x2), (4, .int x3), (5, .int x4)]) hx hb dL_act_374 hl (by decide) rfl (fun ls hl => ?_)
  refine lv_bipush (v := -42) hx hb dL_act_376 (by decide) ?_
  refine kend_i S hr hlocks hS rfl dL_act_378
set_option maxHeartbeats 4000000 in
set_option maxRecDepth 100000 in
theorem ax_failing1 (ε : kEnv) (l : Launch) {A : Nat → Prop} {ad : Nat → Nat → Nat} {σ : kS} {H : Heap} {x1 x2 x3 x4 : Int32} (hw : kW ε A ad σ H) (hC : kX ε l yX4_failing wsX4_failing ({ frames := 7, cells := 1, slots := 6, locals := 120 }) [.ref (ad 0 0), .int x1] H "java/lang/IndexOutOfBoundsException") : kMi ε l yL_act wsL_act ({ frames := 11, cells := 1, slots := 6, locals := 310 }) [.ref (ad 0 0), .int 8, .int x1, .int x2, .int x3, .int x4] H kNo (1) (6) (fun r9 _ => r9 = -41) := by
  refine kofH (cc := cL_act) (maxL := 7) (ret := (some .int)) (hh := [(0, 368, 369, 83), (0, 368, 374, 85), (0, 368, 379, 87)]) (by decide) rfl (Nat.le_of_ble_eq_true rfl) ?_
  intro p e s m below meth c ls S hr hlocks hT hH hE hl
  have S : CallFix p m c cL_act 7 s _ wsL_act RL := S
  have hx := S.1
  have hb := S.2.1
  have hown : s.vm.findClass RL = some m.cls := S.2.2.2.1
  have hts := S.2.2.2.2
  have hK := hE.1
  have hS : va_S kNo s.heap H [] := by rw [hH]; exact va_S.rf
  have hAb : ∀ q, kNo q → kHi ε q := fun _ h => h.elim
  have hl : lv_has ls 7 [(0, .ref (ad 0 0)), (1, .int 8), (2, .int x1), (3, .int x2), (4, .int x3), (5, .int x4)] := hl
  refine lv_iload_n hx hb dL_act_0 rfl (lv_at hl 1 rfl) ?_
  refine lv_if_ne (tgt := 12) hx hb dL_act_1 (by decide) (fun _ => ?_) (fun hc => absurd hc (by decide))
  refine lv_iload_n hx hb dL_act_12 rfl (lv_at hl 1 rfl) ?_
  refine lv_iconst (v := 1) hx hb dL_act_13 (by decide) ?_
  refine lv_icmp_ne (tgt := 30) hx hb dL_act_14 (by decide) (fun _ => ?_) (fun hc => absurd hc (by decide))
  refine lv_iload_n hx hb dL_act_30 rfl (lv_at hl 1 rfl) ?_
  refine lv_iconst (v := 2) hx hb dL_act_31 (by decide) ?_
  refine lv_icmp_ne (tgt := 63) hx hb dL_act_32 (by decide) (fun _ => ?_) (fun hc => absurd hc (by decide))
  refine lv_iload_n hx hb dL_act_63 rfl (lv_at hl 1 rfl) ?_
  refine lv_iconst (v := 3) hx hb dL_act_64 (by decide) ?_
  refine lv_icmp_ne (tgt := 94) hx hb dL_act_65 (by decide) (fun _ => ?_) (fun hc => absurd hc (by decide))
  refine lv_iload_n hx hb dL_act_94 rfl (lv_at hl 1 rfl) ?_
  refine lv_iconst (v := 4) hx hb dL_act_95 (by decide) ?_
  refine lv_icmp_ne (tgt := 108) hx hb dL_act_96 (by decide) (fun _ => ?_) (fun hc => absurd hc (by decide))
  refine lv_iload_n hx hb dL_act_108 rfl (lv_at hl 1 rfl) ?_
  refine lv_iconst (v := 5) hx hb dL_act_109 (by decide) ?_
  refine lv_icmp_ne (tgt := 124) hx hb dL_act_110 (by decide) (fun _ => ?_) (fun hc => absurd hc (by decide))
  refine lv_iload_n hx hb dL_act_124 rfl (lv_at hl 1 rfl) ?_
  refine lv_bipush (v := 6) hx hb dL_act_125 (by decide) ?_
  refine lv_icmp_ne (tgt := 138) hx hb dL_act_127 (by decide) (fun _ => ?_) (fun hc => absurd hc (by decide))
  refine lv_iload_n hx hb dL_act_138 rfl (lv_at hl 1 rfl) ?_
  refine lv_bipush (v := 7) hx hb dL_act_139 (by decide) ?_
  refine lv_icmp_ne (tgt := 152) hx hb dL_act_141 (by decide) (fun _ => ?_) (fun hc => absurd hc (by decide))
  refine lv_iload_n hx hb dL_act_152 rfl (lv_at hl 1 rfl) ?_
  refine lv_bipush (v := 8) hx hb dL_act_153 (by decide) ?_
  refine lv_icmp_ne (tgt := 166) hx hb dL_act_155 (by decide) (fun hc => absurd (by decide) hc) (fun _ => ?_)
  refine lv_aload_n hx hb dL_act_158 rfl (lv_at hl 0 rfl) ?_
  refine lv_iload_n hx hb dL_act_159 rfl (lv_at hl 2 rfl) ?_
  refine kgo_x (kx_V (As := [.int x1]) (rest := []) S hE hS hAb hC (cwV 1 hts gL_act_X4_failing rfl rfl rfl (by decide +kernel) ⟨Nat.le_of_ble_eq_true rfl, Nat.le_of_ble_eq_true rfl⟩) (hw.lv 0 0 (rfl : (0 : Nat) = 0)) rfl rfl hl.1 rfl (Nat.le_of_ble_eq_true rfl) dL_act_160 ⟨Nat.le_refl _, Nat.le_refl _⟩) hS (fun ce q9 H1 locs h1 h2 hS h4 h5 h6 => ?_)
  refine kcatch (E := "java/lang/IndexOutOfBoundsException") [] (0, 368, 369, 83) [(0, 368, 374, 85), (0, 368, 379, 87)] hE hown hT rfl (by decide) (by decide) (fun z hz => by simp at hz) (hts (.classLink RL 83 "java/lang/IndexOutOfBoundsException") (by decide +kernel)) (by decide +kernel) h4 h5 h6 ?_
  refine lv_astore (lv' := [(6, .ref q9), (0, .ref (ad 0 0)), (1, .int 8), (2, .int x1), (3, .int x2), (4, .int x3), (5, .int x4)]) hx hb dL_act_369 hl (by decide) rfl (fun ls hl => ?_)
  refine lv_bipush (v := -41) hx hb dL_act_371 (by decide) ?_
  refine kend_i S hr hlocks hS rfl dL_act_373
set_option maxHeartbeats 4000000 in
set_option maxRecDepth 100000 in
theorem ax_verdict1 (ε : kEnv) (l : Launch) {A : Nat → Prop} {ad : Nat → Nat → Nat} {σ : kS} {H : Heap} {x1 x2 x3 x4 : Int32} (hw : kW ε A ad σ H) (hC : kX ε l yX4_verdict wsX4_verdict ({ frames := 7, cells := 1, slots := 6, locals := 120 }) [.ref (ad 0 0), .int x1] H "java/lang/IndexOutOfBoundsException") : kMi ε l yL_act wsL_act ({ frames := 11, cells := 1, slots := 6, locals := 310 }) [.ref (ad 0 0), .int 9, .int x1, .int x2, .int x3, .int x4] H kNo (1) (6) (fun r9 _ => r9 = -41) := by
  refine kofH (cc := cL_act) (maxL := 7) (ret := (some .int)) (hh := [(0, 368, 369, 83), (0, 368, 374, 85), (0, 368, 379, 87)]) (by decide) rfl (Nat.le_of_ble_eq_true rfl) ?_
  intro p e s m below meth c ls S hr hlocks hT hH hE hl
  have S : CallFix p m c cL_act 7 s _ wsL_act RL := S
  have hx := S.1
  have hb := S.2.1
  have hown : s.vm.findClass RL = some m.cls := S.2.2.2.1
  have hts := S.2.2.2.2
  have hK := hE.1
  have hS : va_S kNo s.heap H [] := by rw [hH]; exact va_S.rf
  have hAb : ∀ q, kNo q → kHi ε q := fun _ h => h.elim
  have hl : lv_has ls 7 [(0, .ref (ad 0 0)), (1, .int 9), (2, .int x1), (3, .int x2), (4, .int x3), (5, .int x4)] := hl
  refine lv_iload_n hx hb dL_act_0 rfl (lv_at hl 1 rfl) ?_
  refine lv_if_ne (tgt := 12) hx hb dL_act_1 (by decide) (fun _ => ?_) (fun hc => absurd hc (by decide))
  refine lv_iload_n hx hb dL_act_12 rfl (lv_at hl 1 rfl) ?_
  refine lv_iconst (v := 1) hx hb dL_act_13 (by decide) ?_
  refine lv_icmp_ne (tgt := 30) hx hb dL_act_14 (by decide) (fun _ => ?_) (fun hc => absurd hc (by decide))
  refine lv_iload_n hx hb dL_act_30 rfl (lv_at hl 1 rfl) ?_
  refine lv_iconst (v := 2) hx hb dL_act_31 (by decide) ?_
  refine lv_icmp_ne (tgt := 63) hx hb dL_act_32 (by decide) (fun _ => ?_) (fun hc => absurd hc (by decide))
  refine lv_iload_n hx hb dL_act_63 rfl (lv_at hl 1 rfl) ?_
  refine lv_iconst (v := 3) hx hb dL_act_64 (by decide) ?_
  refine lv_icmp_ne (tgt := 94) hx hb dL_act_65 (by decide) (fun _ => ?_) (fun hc => absurd hc (by decide))
  refine lv_iload_n hx hb dL_act_94 rfl (lv_at hl 1 rfl) ?_
  refine lv_iconst (v := 4) hx hb dL_act_95 (by decide) ?_
  refine lv_icmp_ne (tgt := 108) hx hb dL_act_96 (by decide) (fun _ => ?_) (fun hc => absurd hc (by decide))
  refine lv_iload_n hx hb dL_act_108 rfl (lv_at hl 1 rfl) ?_
  refine lv_iconst (v := 5) hx hb dL_act_109 (by decide) ?_
  refine lv_icmp_ne (tgt := 124) hx hb dL_act_110 (by decide) (fun _ => ?_) (fun hc => absurd hc (by decide))
  refine lv_iload_n hx hb dL_act_124 rfl (lv_at hl 1 rfl) ?_
  refine lv_bipush (v := 6) hx hb dL_act_125 (by decide) ?_
  refine lv_icmp_ne (tgt := 138) hx hb dL_act_127 (by decide) (fun _ => ?_) (fun hc => absurd hc (by decide))
  refine lv_iload_n hx hb dL_act_138 rfl (lv_at hl 1 rfl) ?_
  refine lv_bipush (v := 7) hx hb dL_act_139 (by decide) ?_
  refine lv_icmp_ne (tgt := 152) hx hb dL_act_141 (by decide) (fun _ => ?_) (fun hc => absurd hc (by decide))
  refine lv_iload_n hx hb dL_act_152 rfl (lv_at hl 1 rfl) ?_
  refine lv_bipush (v := 8) hx hb dL_act_153 (by decide) ?_
  refine lv_icmp_ne (tgt := 166) hx hb dL_act_155 (by decide) (fun _ => ?_) (fun hc => absurd hc (by decide))
  refine lv_iload_n hx hb dL_act_166 rfl (lv_at hl 1 rfl) ?_
  refine lv_bipush (v := 9) hx hb dL_act_167 (by decide) ?_
  refine lv_icmp_ne (tgt := 180) hx hb dL_act_169 (by decide) (fun hc => absurd (by decide) hc) (fun _ => ?_)
  refine lv_aload_n hx hb dL_act_172 rfl (lv_at hl 0 rfl) ?_
  refine lv_iload_n hx hb dL_act_173 rfl (lv_at hl 2 rfl) ?_
  refine kgo_x (kx_V (As := [.int x1]) (rest := []) S hE hS hAb hC (cwV 1 hts gL_act_X4_verdict rfl rfl rfl (by decide +kernel) ⟨Nat.le_of_ble_eq_true rfl, Nat.le_of_ble_eq_true rfl⟩) (hw.lv 0 0 (rfl : (0 : Nat) = 0)) rfl rfl hl.1 rfl (Nat.le_of_ble_eq_true rfl) dL_act_174 ⟨Nat.le_refl _, Nat.le_refl _⟩) hS (fun ce q9 H1 locs h1 h2 hS h4 h5 h6 => ?_)
  refine kcatch (E := "java/lang/IndexOutOfBoundsException") [] (0, 368, 369, 83) [(0, 368, 374, 85), (0, 368, 379, 87)] hE hown hT rfl (by decide) (by decide) (fun z hz => by simp at hz) (hts (.classLink RL 83 "java/lang/IndexOutOfBoundsException") (by decide +kernel)) (by decide +kernel) h4 h5 h6 ?_
  refine lv_astore (lv' := [(6, .ref q9), (0, .ref (ad 0 0)), (1, .int 9), (2, .int x1), (3, .int x2), (4, .int x3), (5, .int x4)]) hx hb dL_act_369 hl (by decide) rfl (fun ls hl => ?_)
  refine lv_bipush (v := -41) hx hb dL_act_371 (by decide) ?_
  refine kend_i S hr hlocks hS rfl dL_act_373
set_option maxHeartbeats 4000000 in
set_option maxRecDepth 100000 in
theorem ax_trusted1 (ε : kEnv) (l : Launch) {A : Nat → Prop} {ad : Nat → Nat → Nat} {σ : kS} {H : Heap} {x1 x2 x3 x4 : Int32} (hw : kW ε A ad σ H) (hC : kX ε l yX4_trusted wsX4_trusted ({ frames := 7, cells := 1, slots := 6, locals := 120 }) [.ref (ad 0 0), .int x1] H "java/lang/IndexOutOfBoundsException") : kMi ε l yL_act wsL_act ({ frames := 11, cells := 1, slots := 6, locals := 310 }) [.ref (ad 0 0), .int 10, .int x1, .int x2, .int x3, .int x4] H kNo (1) (6) (fun r9 _ => r9 = -41) := by
  refine kofH (cc := cL_act) (maxL := 7) (ret := (some .int)) (hh := [(0, 368, 369, 83), (0, 368, 374, 85), (0, 368, 379, 87)]) (by decide) rfl (Nat.le_of_ble_eq_true rfl) ?_
  intro p e s m below meth c ls S hr hlocks hT hH hE hl
  have S : CallFix p m c cL_act 7 s _ wsL_act RL := S
  have hx := S.1
  have hb := S.2.1
  have hown : s.vm.findClass RL = some m.cls := S.2.2.2.1
  have hts := S.2.2.2.2
  have hK := hE.1
  have hS : va_S kNo s.heap H [] := by rw [hH]; exact va_S.rf
  have hAb : ∀ q, kNo q → kHi ε q := fun _ h => h.elim
  have hl : lv_has ls 7 [(0, .ref (ad 0 0)), (1, .int 10), (2, .int x1), (3, .int x2), (4, .int x3), (5, .int x4)] := hl
  refine lv_iload_n hx hb dL_act_0 rfl (lv_at hl 1 rfl) ?_
  refine lv_if_ne (tgt := 12) hx hb dL_act_1 (by decide) (fun _ => ?_) (fun hc => absurd hc (by decide))
  refine lv_iload_n hx hb dL_act_12 rfl (lv_at hl 1 rfl) ?_
  refine lv_iconst (v := 1) hx hb dL_act_13 (by decide) ?_
  refine lv_icmp_ne (tgt := 30) hx hb dL_act_14 (by decide) (fun _ => ?_) (fun hc => absurd hc (by decide))
  refine lv_iload_n hx hb dL_act_30 rfl (lv_at hl 1 rfl) ?_
  refine lv_iconst (v := 2) hx hb dL_act_31 (by decide) ?_
  refine lv_icmp_ne (tgt := 63) hx hb dL_act_32 (by decide) (fun _ => ?_) (fun hc => absurd hc (by decide))
  refine lv_iload_n hx hb dL_act_63 rfl (lv_at hl 1 rfl) ?_
  refine lv_iconst (v := 3) hx hb dL_act_64 (by decide) ?_
  refine lv_icmp_ne (tgt := 94) hx hb dL_act_65 (by decide) (fun _ => ?_) (fun hc => absurd hc (by decide))
  refine lv_iload_n hx hb dL_act_94 rfl (lv_at hl 1 rfl) ?_
  refine lv_iconst (v := 4) hx hb dL_act_95 (by decide) ?_
  refine lv_icmp_ne (tgt := 108) hx hb dL_act_96 (by decide) (fun _ => ?_) (fun hc => absurd hc (by decide))
  refine lv_iload_n hx hb dL_act_108 rfl (lv_at hl 1 rfl) ?_
  refine lv_iconst (v := 5) hx hb dL_act_109 (by decide) ?_
  refine lv_icmp_ne (tgt := 124) hx hb dL_act_110 (by decide) (fun _ => ?_) (fun hc => absurd hc (by decide))
  refine lv_iload_n hx hb dL_act_124 rfl (lv_at hl 1 rfl) ?_
  refine lv_bipush (v := 6) hx hb dL_act_125 (by decide) ?_
  refine lv_icmp_ne (tgt := 138) hx hb dL_act_127 (by decide) (fun _ => ?_) (fun hc => absurd hc (by decide))
  refine lv_iload_n hx hb dL_act_138 rfl (lv_at hl 1 rfl) ?_
  refine lv_bipush (v := 7) hx hb dL_act_139 (by decide) ?_
  refine lv_icmp_ne (tgt := 152) hx hb dL_act_141 (by decide) (fun _ => ?_) (fun hc => absurd hc (by decide))
  refine lv_iload_n hx hb dL_act_152 rfl (lv_at hl 1 rfl) ?_
  refine lv_bipush (v := 8) hx hb dL_act_153 (by decide) ?_
  refine lv_icmp_ne (tgt := 166) hx hb dL_act_155 (by decide) (fun _ => ?_) (fun hc => absurd hc (by decide))
  refine lv_iload_n hx hb dL_act_166 rfl (lv_at hl 1 rfl) ?_
  refine lv_bipush (v := 9) hx hb dL_act_167 (by decide) ?_
  refine lv_icmp_ne (tgt := 180) hx hb dL_act_169 (by decide) (fun _ => ?_) (fun hc => absurd hc (by decide))
  refine lv_iload_n hx hb dL_act_180 rfl (lv_at hl 1 rfl) ?_
  refine lv_bipush (v := 10) hx hb dL_act_181 (by decide) ?_
  refine lv_icmp_ne (tgt := 194) hx hb dL_act_183 (by decide) (fun hc => absurd (by decide) hc) (fun _ => ?_)
  refine lv_aload_n hx hb dL_act_186 rfl (lv_at hl 0 rfl) ?_
  refine lv_iload_n hx hb dL_act_187 rfl (lv_at hl 2 rfl) ?_
  refine kgo_x (kx_V (As := [.int x1]) (rest := []) S hE hS hAb hC (cwV 1 hts gL_act_X4_trusted rfl rfl rfl (by decide +kernel) ⟨Nat.le_of_ble_eq_true rfl, Nat.le_of_ble_eq_true rfl⟩) (hw.lv 0 0 (rfl : (0 : Nat) = 0)) rfl rfl hl.1 rfl (Nat.le_of_ble_eq_true rfl) dL_act_188 ⟨Nat.le_refl _, Nat.le_refl _⟩) hS (fun ce q9 H1 locs h1 h2 hS h4 h5 h6 => ?_)
  refine kcatch (E := "java/lang/IndexOutOfBoundsException") [] (0, 368, 369, 83) [(0, 368, 374, 85), (0, 368, 379, 87)] hE hown hT rfl (by decide) (by decide) (fun z hz => by simp at hz) (hts (.classLink RL 83 "java/lang/IndexOutOfBoundsException") (by decide +kernel)) (by decide +kernel) h4 h5 h6 ?_
  refine lv_astore (lv' := [(6, .ref q9), (0, .ref (ad 0 0)), (1, .int 10), (2, .int x1), (3, .int x2), (4, .int x3), (5, .int x4)]) hx hb dL_act_369 hl (by decide) rfl (fun ls hl => ?_)
  refine lv_bipush (v := -41) hx hb dL_act_371 (by decide) ?_
  refine kend_i S hr hlocks hS rfl dL_act_373
set_option maxHeartbeats 4000000 in
set_option maxRecDepth 100000 in
theorem ax_hasAlarm1 (ε : kEnv) (l : Launch) {A : Nat → Prop} {ad : Nat → Nat → Nat} {σ : kS} {H : Heap} {x1 x2 x3 x4 : Int32} (hw : kW ε A ad σ H) (hC : kX ε l yX4_hasAlarm wsX4_hasAlarm ({ frames := 7, cells := 1, slots := 6, locals := 120 }) [.ref (ad 0 0), .int x1] H "java/lang/IndexOutOfBoundsException") : kMi ε l yL_act wsL_act ({ frames := 11, cells := 1, slots := 6, locals := 310 }) [.ref (ad 0 0), .int 11, .int x1, .int x2, .int x3, .int x4] H kNo (1) (6) (fun r9 _ => r9 = -41) := by
  refine kofH (cc := cL_act) (maxL := 7) (ret := (some .int)) (hh := [(0, 368, 369, 83), (0, 368, 374, 85), (0, 368, 379, 87)]) (by decide) rfl (Nat.le_of_ble_eq_true rfl) ?_
  intro p e s m below meth c ls S hr hlocks hT hH hE hl
  have S : CallFix p m c cL_act 7 s _ wsL_act RL := S
  have hx := S.1
  have hb := S.2.1
  have hown : s.vm.findClass RL = some m.cls := S.2.2.2.1
  have hts := S.2.2.2.2
  have hK := hE.1
  have hS : va_S kNo s.heap H [] := by rw [hH]; exact va_S.rf
  have hAb : ∀ q, kNo q → kHi ε q := fun _ h => h.elim
  have hl : lv_has ls 7 [(0, .ref (ad 0 0)), (1, .int 11), (2, .int x1), (3, .int x2), (4, .int x3), (5, .int x4)] := hl
  refine lv_iload_n hx hb dL_act_0 rfl (lv_at hl 1 rfl) ?_
  refine lv_if_ne (tgt := 12) hx hb dL_act_1 (by decide) (fun _ => ?_) (fun hc => absurd hc (by decide))
  refine lv_iload_n hx hb dL_act_12 rfl (lv_at hl 1 rfl) ?_
  refine lv_iconst (v := 1) hx hb dL_act_13 (by decide) ?_
  refine lv_icmp_ne (tgt := 30) hx hb dL_act_14 (by decide) (fun _ => ?_) (fun hc => absurd hc (by decide))
  refine lv_iload_n hx hb dL_act_30 rfl (lv_at hl 1 rfl) ?_
  refine lv_iconst (v := 2) hx hb dL_act_31 (by decide) ?_
  refine lv_icmp_ne (tgt := 63) hx hb dL_act_32 (by decide) (fun _ => ?_) (fun hc => absurd hc (by decide))
  refine lv_iload_n hx hb dL_act_63 rfl (lv_at hl 1 rfl) ?_
  refine lv_iconst (v := 3) hx hb dL_act_64 (by decide) ?_
  refine lv_icmp_ne (tgt := 94) hx hb dL_act_65 (by decide) (fun _ => ?_) (fun hc => absurd hc (by decide))
  refine lv_iload_n hx hb dL_act_94 rfl (lv_at hl 1 rfl) ?_
  refine lv_iconst (v := 4) hx hb dL_act_95 (by decide) ?_
  refine lv_icmp_ne (tgt := 108) hx hb dL_act_96 (by decide) (fun _ => ?_) (fun hc => absurd hc (by decide))
  refine lv_iload_n hx hb dL_act_108 rfl (lv_at hl 1 rfl) ?_
  refine lv_iconst (v := 5) hx hb dL_act_109 (by decide) ?_
  refine lv_icmp_ne (tgt := 124) hx hb dL_act_110 (by decide) (fun _ => ?_) (fun hc => absurd hc (by decide))
  refine lv_iload_n hx hb dL_act_124 rfl (lv_at hl 1 rfl) ?_
  refine lv_bipush (v := 6) hx hb dL_act_125 (by decide) ?_
  refine lv_icmp_ne (tgt := 138) hx hb dL_act_127 (by decide) (fun _ => ?_) (fun hc => absurd hc (by decide))
  refine lv_iload_n hx hb dL_act_138 rfl (lv_at hl 1 rfl) ?_
  refine lv_bipush (v := 7) hx hb dL_act_139 (by decide) ?_
  refine lv_icmp_ne (tgt := 152) hx hb dL_act_141 (by decide) (fun _ => ?_) (fun hc => absurd hc (by decide))
  refine lv_iload_n hx hb dL_act_152 rfl (lv_at hl 1 rfl) ?_
  refine lv_bipush (v := 8) hx hb dL_act_153 (by decide) ?_
  refine lv_icmp_ne (tgt := 166) hx hb dL_act_155 (by decide) (fun _ => ?_) (fun hc => absurd hc (by decide))
  refine lv_iload_n hx hb dL_act_166 rfl (lv_at hl 1 rfl) ?_
  refine lv_bipush (v := 9) hx hb dL_act_167 (by decide) ?_
  refine lv_icmp_ne (tgt := 180) hx hb dL_act_169 (by decide) (fun _ => ?_) (fun hc => absurd hc (by decide))
  refine lv_iload_n hx hb dL_act_180 rfl (lv_at hl 1 rfl) ?_
  refine lv_bipush (v := 10) hx hb dL_act_181 (by decide) ?_
  refine lv_icmp_ne (tgt := 194) hx hb dL_act_183 (by decide) (fun _ => ?_) (fun hc => absurd hc (by decide))
  refine lv_iload_n hx hb dL_act_194 rfl (lv_at hl 1 rfl) ?_
  refine lv_bipush (v := 11) hx hb dL_act_195 (by decide) ?_
  refine lv_icmp_ne (tgt := 216) hx hb dL_act_197 (by decide) (fun hc => absurd (by decide) hc) (fun _ => ?_)
  refine lv_aload_n hx hb dL_act_200 rfl (lv_at hl 0 rfl) ?_
  refine lv_iload_n hx hb dL_act_201 rfl (lv_at hl 2 rfl) ?_
  refine kgo_x (kx_V (As := [.int x1]) (rest := []) S hE hS hAb hC (cwV 1 hts gL_act_X4_hasAlarm rfl rfl rfl (by decide +kernel) ⟨Nat.le_of_ble_eq_true rfl, Nat.le_of_ble_eq_true rfl⟩) (hw.lv 0 0 (rfl : (0 : Nat) = 0)) rfl rfl hl.1 rfl (Nat.le_of_ble_eq_true rfl) dL_act_202 ⟨Nat.le_refl _, Nat.le_refl _⟩) hS (fun ce q9 H1 locs h1 h2 hS h4 h5 h6 => ?_)
  refine kcatch (E := "java/lang/IndexOutOfBoundsException") [] (0, 368, 369, 83) [(0, 368, 374, 85), (0, 368, 379, 87)] hE hown hT rfl (by decide) (by decide) (fun z hz => by simp at hz) (hts (.classLink RL 83 "java/lang/IndexOutOfBoundsException") (by decide +kernel)) (by decide +kernel) h4 h5 h6 ?_
  refine lv_astore (lv' := [(6, .ref q9), (0, .ref (ad 0 0)), (1, .int 11), (2, .int x1), (3, .int x2), (4, .int x3), (5, .int x4)]) hx hb dL_act_369 hl (by decide) rfl (fun ls hl => ?_)
  refine lv_bipush (v := -41) hx hb dL_act_371 (by decide) ?_
  refine kend_i S hr hlocks hS rfl dL_act_373
set_option maxHeartbeats 4000000 in
set_option maxRecDepth 100000 in
theorem ax_availability1 (ε : kEnv) (l : Launch) {A : Nat → Prop} {ad : Nat → Nat → Nat} {σ : kS} {H : Heap} {x1 x2 x3 x4 : Int32} (hw : kW ε A ad σ H) (hC : kX ε l yX4_availability wsX4_availability ({ frames := 7, cells := 1, slots := 6, locals := 120 }) [.ref (ad 0 0), .int x1] H "java/lang/IndexOutOfBoundsException") : kMi ε l yL_act wsL_act ({ frames := 11, cells := 1, slots := 6, locals := 310 }) [.ref (ad 0 0), .int 12, .int x1, .int x2, .int x3, .int x4] H kNo (1) (6) (fun r9 _ => r9 = -41) := by
  refine kofH (cc := cL_act) (maxL := 7) (ret := (some .int)) (hh := [(0, 368, 369, 83), (0, 368, 374, 85), (0, 368, 379, 87)]) (by decide) rfl (Nat.le_of_ble_eq_true rfl) ?_
  intro p e s m below meth c ls S hr hlocks hT hH hE hl
  have S : CallFix p m c cL_act 7 s _ wsL_act RL := S
  have hx := S.1
  have hb := S.2.1
  have hown : s.vm.findClass RL = some m.cls := S.2.2.2.1
  have hts := S.2.2.2.2
  have hK := hE.1
  have hS : va_S kNo s.heap H [] := by rw [hH]; exact va_S.rf
  have hAb : ∀ q, kNo q → kHi ε q := fun _ h => h.elim
  have hl : lv_has ls 7 [(0, .ref (ad 0 0)), (1, .int 12), (2, .int x1), (3, .int x2), (4, .int x3), (5, .int x4)] := hl
  refine lv_iload_n hx hb dL_act_0 rfl (lv_at hl 1 rfl) ?_
  refine lv_if_ne (tgt := 12) hx hb dL_act_1 (by decide) (fun _ => ?_) (fun hc => absurd hc (by decide))
  refine lv_iload_n hx hb dL_act_12 rfl (lv_at hl 1 rfl) ?_
  refine lv_iconst (v := 1) hx hb dL_act_13 (by decide) ?_
  refine lv_icmp_ne (tgt := 30) hx hb dL_act_14 (by decide) (fun _ => ?_) (fun hc => absurd hc (by decide))
  refine lv_iload_n hx hb dL_act_30 rfl (lv_at hl 1 rfl) ?_
  refine lv_iconst (v := 2) hx hb dL_act_31 (by decide) ?_
  refine lv_icmp_ne (tgt := 63) hx hb dL_act_32 (by decide) (fun _ => ?_) (fun hc => absurd hc (by decide))
  refine lv_iload_n hx hb dL_act_63 rfl (lv_at hl 1 rfl) ?_
  refine lv_iconst (v := 3) hx hb dL_act_64 (by decide) ?_
  refine lv_icmp_ne (tgt := 94) hx hb dL_act_65 (by decide) (fun _ => ?_) (fun hc => absurd hc (by decide))
  refine lv_iload_n hx hb dL_act_94 rfl (lv_at hl 1 rfl) ?_
  refine lv_iconst (v := 4) hx hb dL_act_95 (by decide) ?_
  refine lv_icmp_ne (tgt := 108) hx hb dL_act_96 (by decide) (fun _ => ?_) (fun hc => absurd hc (by decide))
  refine lv_iload_n hx hb dL_act_108 rfl (lv_at hl 1 rfl) ?_
  refine lv_iconst (v := 5) hx hb dL_act_109 (by decide) ?_
  refine lv_icmp_ne (tgt := 124) hx hb dL_act_110 (by decide) (fun _ => ?_) (fun hc => absurd hc (by decide))
  refine lv_iload_n hx hb dL_act_124 rfl (lv_at hl 1 rfl) ?_
  refine lv_bipush (v := 6) hx hb dL_act_125 (by decide) ?_
  refine lv_icmp_ne (tgt := 138) hx hb dL_act_127 (by decide) (fun _ => ?_) (fun hc => absurd hc (by decide))
  refine lv_iload_n hx hb dL_act_138 rfl (lv_at hl 1 rfl) ?_
  refine lv_bipush (v := 7) hx hb dL_act_139 (by decide) ?_
  refine lv_icmp_ne (tgt := 152) hx hb dL_act_141 (by decide) (fun _ => ?_) (fun hc => absurd hc (by decide))
  refine lv_iload_n hx hb dL_act_152 rfl (lv_at hl 1 rfl) ?_
  refine lv_bipush (v := 8) hx hb dL_act_153 (by decide) ?_
  refine lv_icmp_ne (tgt := 166) hx hb dL_act_155 (by decide) (fun _ => ?_) (fun hc => absurd hc (by decide))
  refine lv_iload_n hx hb dL_act_166 rfl (lv_at hl 1 rfl) ?_
  refine lv_bipush (v := 9) hx hb dL_act_167 (by decide) ?_
  refine lv_icmp_ne (tgt := 180) hx hb dL_act_169 (by decide) (fun _ => ?_) (fun hc => absurd hc (by decide))
  refine lv_iload_n hx hb dL_act_180 rfl (lv_at hl 1 rfl) ?_
  refine lv_bipush (v := 10) hx hb dL_act_181 (by decide) ?_
  refine lv_icmp_ne (tgt := 194) hx hb dL_act_183 (by decide) (fun _ => ?_) (fun hc => absurd hc (by decide))
  refine lv_iload_n hx hb dL_act_194 rfl (lv_at hl 1 rfl) ?_
  refine lv_bipush (v := 11) hx hb dL_act_195 (by decide) ?_
  refine lv_icmp_ne (tgt := 216) hx hb dL_act_197 (by decide) (fun _ => ?_) (fun hc => absurd hc (by decide))
  refine lv_iload_n hx hb dL_act_216 rfl (lv_at hl 1 rfl) ?_
  refine lv_bipush (v := 12) hx hb dL_act_217 (by decide) ?_
  refine lv_icmp_ne (tgt := 240) hx hb dL_act_219 (by decide) (fun hc => absurd (by decide) hc) (fun _ => ?_)
  refine lv_aload_n hx hb dL_act_222 rfl (lv_at hl 0 rfl) ?_
  refine lv_iload_n hx hb dL_act_223 rfl (lv_at hl 2 rfl) ?_
  refine kgo_x (kx_V (As := [.int x1]) (rest := []) S hE hS hAb hC (cwV 1 hts gL_act_X4_availability rfl rfl rfl (by decide +kernel) ⟨Nat.le_of_ble_eq_true rfl, Nat.le_of_ble_eq_true rfl⟩) (hw.lv 0 0 (rfl : (0 : Nat) = 0)) rfl rfl hl.1 rfl (Nat.le_of_ble_eq_true rfl) dL_act_224 ⟨Nat.le_refl _, Nat.le_refl _⟩) hS (fun ce q9 H1 locs h1 h2 hS h4 h5 h6 => ?_)
  refine kcatch (E := "java/lang/IndexOutOfBoundsException") [] (0, 368, 369, 83) [(0, 368, 374, 85), (0, 368, 379, 87)] hE hown hT rfl (by decide) (by decide) (fun z hz => by simp at hz) (hts (.classLink RL 83 "java/lang/IndexOutOfBoundsException") (by decide +kernel)) (by decide +kernel) h4 h5 h6 ?_
  refine lv_astore (lv' := [(6, .ref q9), (0, .ref (ad 0 0)), (1, .int 12), (2, .int x1), (3, .int x2), (4, .int x3), (5, .int x4)]) hx hb dL_act_369 hl (by decide) rfl (fun ls hl => ?_)
  refine lv_bipush (v := -41) hx hb dL_act_371 (by decide) ?_
  refine kend_i S hr hlocks hS rfl dL_act_373
set_option maxHeartbeats 4000000 in
set_option maxRecDepth 100000 in
theorem ax_availability3 (ε : kEnv) (l : Launch) {A : Nat → Prop} {ad : Nat → Nat → Nat} {σ : kS} {H : Heap} {x1 x2 x3 x4 : Int32} (hw : kW ε A ad σ H) (hC : kX ε l yX4_availability wsX4_availability ({ frames := 7, cells := 1, slots := 6, locals := 120 }) [.ref (ad 0 0), .int x1] H "java/lang/IllegalStateException") : kMi ε l yL_act wsL_act ({ frames := 11, cells := 1, slots := 6, locals := 310 }) [.ref (ad 0 0), .int 12, .int x1, .int x2, .int x3, .int x4] H kNo (1) (6) (fun r9 _ => r9 = -43) := by
  refine kofH (cc := cL_act) (maxL := 7) (ret := (some .int)) (hh := [(0, 368, 369, 83), (0, 368, 374, 85), (0, 368, 379, 87)]) (by decide) rfl (Nat.le_of_ble_eq_true rfl) ?_
  intro p e s m below meth c ls S hr hlocks hT hH hE hl
  have S : CallFix p m c cL_act 7 s _ wsL_act RL := S
  have hx := S.1
  have hb := S.2.1
  have hown : s.vm.findClass RL = some m.cls := S.2.2.2.1
  have hts := S.2.2.2.2
  have hK := hE.1
  have hS : va_S kNo s.heap H [] := by rw [hH]; exact va_S.rf
  have hAb : ∀ q, kNo q → kHi ε q := fun _ h => h.elim
  have hl : lv_has ls 7 [(0, .ref (ad 0 0)), (1, .int 12), (2, .int x1), (3, .int x2), (4, .int x3), (5, .int x4)] := hl
  refine lv_iload_n hx hb dL_act_0 rfl (lv_at hl 1 rfl) ?_
  refine lv_if_ne (tgt := 12) hx hb dL_act_1 (by decide) (fun _ => ?_) (fun hc => absurd hc (by decide))
  refine lv_iload_n hx hb dL_act_12 rfl (lv_at hl 1 rfl) ?_
  refine lv_iconst (v := 1) hx hb dL_act_13 (by decide) ?_
  refine lv_icmp_ne (tgt := 30) hx hb dL_act_14 (by decide) (fun _ => ?_) (fun hc => absurd hc (by decide))
  refine lv_iload_n hx hb dL_act_30 rfl (lv_at hl 1 rfl) ?_
  refine lv_iconst (v := 2) hx hb dL_act_31 (by decide) ?_
  refine lv_icmp_ne (tgt := 63) hx hb dL_act_32 (by decide) (fun _ => ?_) (fun hc => absurd hc (by decide))
  refine lv_iload_n hx hb dL_act_63 rfl (lv_at hl 1 rfl) ?_
  refine lv_iconst (v := 3) hx hb dL_act_64 (by decide) ?_
  refine lv_icmp_ne (tgt := 94) hx hb dL_act_65 (by decide) (fun _ => ?_) (fun hc => absurd hc (by decide))
  refine lv_iload_n hx hb dL_act_94 rfl (lv_at hl 1 rfl) ?_
  refine lv_iconst (v := 4) hx hb dL_act_95 (by decide) ?_
  refine lv_icmp_ne (tgt := 108) hx hb dL_act_96 (by decide) (fun _ => ?_) (fun hc => absurd hc (by decide))
  refine lv_iload_n hx hb dL_act_108 rfl (lv_at hl 1 rfl) ?_
  refine lv_iconst (v := 5) hx hb dL_act_109 (by decide) ?_
  refine lv_icmp_ne (tgt := 124) hx hb dL_act_110 (by decide) (fun _ => ?_) (fun hc => absurd hc (by decide))
  refine lv_iload_n hx hb dL_act_124 rfl (lv_at hl 1 rfl) ?_
  refine lv_bipush (v := 6) hx hb dL_act_125 (by decide) ?_
  refine lv_icmp_ne (tgt := 138) hx hb dL_act_127 (by decide) (fun _ => ?_) (fun hc => absurd hc (by decide))
  refine lv_iload_n hx hb dL_act_138 rfl (lv_at hl 1 rfl) ?_
  refine lv_bipush (v := 7) hx hb dL_act_139 (by decide) ?_
  refine lv_icmp_ne (tgt := 152) hx hb dL_act_141 (by decide) (fun _ => ?_) (fun hc => absurd hc (by decide))
  refine lv_iload_n hx hb dL_act_152 rfl (lv_at hl 1 rfl) ?_
  refine lv_bipush (v := 8) hx hb dL_act_153 (by decide) ?_
  refine lv_icmp_ne (tgt := 166) hx hb dL_act_155 (by decide) (fun _ => ?_) (fun hc => absurd hc (by decide))
  refine lv_iload_n hx hb dL_act_166 rfl (lv_at hl 1 rfl) ?_
  refine lv_bipush (v := 9) hx hb dL_act_167 (by decide) ?_
  refine lv_icmp_ne (tgt := 180) hx hb dL_act_169 (by decide) (fun _ => ?_) (fun hc => absurd hc (by decide))
  refine lv_iload_n hx hb dL_act_180 rfl (lv_at hl 1 rfl) ?_
  refine lv_bipush (v := 10) hx hb dL_act_181 (by decide) ?_
  refine lv_icmp_ne (tgt := 194) hx hb dL_act_183 (by decide) (fun _ => ?_) (fun hc => absurd hc (by decide))
  refine lv_iload_n hx hb dL_act_194 rfl (lv_at hl 1 rfl) ?_
  refine lv_bipush (v := 11) hx hb dL_act_195 (by decide) ?_
  refine lv_icmp_ne (tgt := 216) hx hb dL_act_197 (by decide) (fun _ => ?_) (fun hc => absurd hc (by decide))
  refine lv_iload_n hx hb dL_act_216 rfl (lv_at hl 1 rfl) ?_
  refine lv_bipush (v := 12) hx hb dL_act_217 (by decide) ?_
  refine lv_icmp_ne (tgt := 240) hx hb dL_act_219 (by decide) (fun hc => absurd (by decide) hc) (fun _ => ?_)
  refine lv_aload_n hx hb dL_act_222 rfl (lv_at hl 0 rfl) ?_
  refine lv_iload_n hx hb dL_act_223 rfl (lv_at hl 2 rfl) ?_
  refine kgo_x (kx_V (As := [.int x1]) (rest := []) S hE hS hAb hC (cwV 1 hts gL_act_X4_availability rfl rfl rfl (by decide +kernel) ⟨Nat.le_of_ble_eq_true rfl, Nat.le_of_ble_eq_true rfl⟩) (hw.lv 0 0 (rfl : (0 : Nat) = 0)) rfl rfl hl.1 rfl (Nat.le_of_ble_eq_true rfl) dL_act_224 ⟨Nat.le_refl _, Nat.le_refl _⟩) hS (fun ce q9 H1 locs h1 h2 hS h4 h5 h6 => ?_)
  refine kcatch (E := "java/lang/IllegalStateException") [(0, 368, 369, 83), (0, 368, 374, 85)] (0, 368, 379, 87) [] hE hown hT rfl (by decide) (by decide) (fun z hz => by
      simp only [List.mem_cons, List.not_mem_nil, or_false] at hz
      rcases hz with rfl | rfl
      · exact ⟨by decide, "java/lang/IndexOutOfBoundsException", hts (.classLink RL 83 "java/lang/IndexOutOfBoundsException") (by decide +kernel), by decide +kernel⟩
      · exact ⟨by decide, "java/lang/IllegalArgumentException", hts (.classLink RL 85 "java/lang/IllegalArgumentException") (by decide +kernel), by decide +kernel⟩) (hts (.classLink RL 87 "java/lang/IllegalStateException") (by decide +kernel)) (by decide +kernel) h4 h5 h6 ?_
  refine lv_astore (lv' := [(6, .ref q9), (0, .ref (ad 0 0)), (1, .int 12), (2, .int x1), (3, .int x2), (4, .int x3), (5, .int x4)]) hx hb dL_act_379 hl (by decide) rfl (fun ls hl => ?_)
  refine lv_bipush (v := -43) hx hb dL_act_381 (by decide) ?_
  refine kend_i S hr hlocks hS rfl dL_act_383
set_option maxHeartbeats 4000000 in
set_option maxRecDepth 100000 in
theorem ax_probes1 (ε : kEnv) (l : Launch) {A : Nat → Prop} {ad : Nat → Nat → Nat} {σ : kS} {H : Heap} {x1 x2 x3 x4 : Int32} (hw : kW ε A ad σ H) (hC : kX ε l yX4_probes wsX4_probes ({ frames := 7, cells := 1, slots := 6, locals := 120 }) [.ref (ad 0 0), .int x1] H "java/lang/IndexOutOfBoundsException") : kMi ε l yL_act wsL_act ({ frames := 11, cells := 1, slots := 6, locals := 310 }) [.ref (ad 0 0), .int 13, .int x1, .int x2, .int x3, .int x4] H kNo (1) (6) (fun r9 _ => r9 = -41) := by
  refine kofH (cc := cL_act) (maxL := 7) (ret := (some .int)) (hh := [(0, 368, 369, 83), (0, 368, 374, 85), (0, 368, 379, 87)]) (by decide) rfl (Nat.le_of_ble_eq_true rfl) ?_
  intro p e s m below meth c ls S hr hlocks hT hH hE hl
  have S : CallFix p m c cL_act 7 s _ wsL_act RL := S
  have hx := S.1
  have hb := S.2.1
  have hown : s.vm.findClass RL = some m.cls := S.2.2.2.1
  have hts := S.2.2.2.2
  have hK := hE.1
  have hS : va_S kNo s.heap H [] := by rw [hH]; exact va_S.rf
  have hAb : ∀ q, kNo q → kHi ε q := fun _ h => h.elim
  have hl : lv_has ls 7 [(0, .ref (ad 0 0)), (1, .int 13), (2, .int x1), (3, .int x2), (4, .int x3), (5, .int x4)] := hl
  refine lv_iload_n hx hb dL_act_0 rfl (lv_at hl 1 rfl) ?_
  refine lv_if_ne (tgt := 12) hx hb dL_act_1 (by decide) (fun _ => ?_) (fun hc => absurd hc (by decide))
  refine lv_iload_n hx hb dL_act_12 rfl (lv_at hl 1 rfl) ?_
  refine lv_iconst (v := 1) hx hb dL_act_13 (by decide) ?_
  refine lv_icmp_ne (tgt := 30) hx hb dL_act_14 (by decide) (fun _ => ?_) (fun hc => absurd hc (by decide))
  refine lv_iload_n hx hb dL_act_30 rfl (lv_at hl 1 rfl) ?_
  refine lv_iconst (v := 2) hx hb dL_act_31 (by decide) ?_
  refine lv_icmp_ne (tgt := 63) hx hb dL_act_32 (by decide) (fun _ => ?_) (fun hc => absurd hc (by decide))
  refine lv_iload_n hx hb dL_act_63 rfl (lv_at hl 1 rfl) ?_
  refine lv_iconst (v := 3) hx hb dL_act_64 (by decide) ?_
  refine lv_icmp_ne (tgt := 94) hx hb dL_act_65 (by decide) (fun _ => ?_) (fun hc => absurd hc (by decide))
  refine lv_iload_n hx hb dL_act_94 rfl (lv_at hl 1 rfl) ?_
  refine lv_iconst (v := 4) hx hb dL_act_95 (by decide) ?_
  refine lv_icmp_ne (tgt := 108) hx hb dL_act_96 (by decide) (fun _ => ?_) (fun hc => absurd hc (by decide))
  refine lv_iload_n hx hb dL_act_108 rfl (lv_at hl 1 rfl) ?_
  refine lv_iconst (v := 5) hx hb dL_act_109 (by decide) ?_
  refine lv_icmp_ne (tgt := 124) hx hb dL_act_110 (by decide) (fun _ => ?_) (fun hc => absurd hc (by decide))
  refine lv_iload_n hx hb dL_act_124 rfl (lv_at hl 1 rfl) ?_
  refine lv_bipush (v := 6) hx hb dL_act_125 (by decide) ?_
  refine lv_icmp_ne (tgt := 138) hx hb dL_act_127 (by decide) (fun _ => ?_) (fun hc => absurd hc (by decide))
  refine lv_iload_n hx hb dL_act_138 rfl (lv_at hl 1 rfl) ?_
  refine lv_bipush (v := 7) hx hb dL_act_139 (by decide) ?_
  refine lv_icmp_ne (tgt := 152) hx hb dL_act_141 (by decide) (fun _ => ?_) (fun hc => absurd hc (by decide))
  refine lv_iload_n hx hb dL_act_152 rfl (lv_at hl 1 rfl) ?_
  refine lv_bipush (v := 8) hx hb dL_act_153 (by decide) ?_
  refine lv_icmp_ne (tgt := 166) hx hb dL_act_155 (by decide) (fun _ => ?_) (fun hc => absurd hc (by decide))
  refine lv_iload_n hx hb dL_act_166 rfl (lv_at hl 1 rfl) ?_
  refine lv_bipush (v := 9) hx hb dL_act_167 (by decide) ?_
  refine lv_icmp_ne (tgt := 180) hx hb dL_act_169 (by decide) (fun _ => ?_) (fun hc => absurd hc (by decide))
  refine lv_iload_n hx hb dL_act_180 rfl (lv_at hl 1 rfl) ?_
  refine lv_bipush (v := 10) hx hb dL_act_181 (by decide) ?_
  refine lv_icmp_ne (tgt := 194) hx hb dL_act_183 (by decide) (fun _ => ?_) (fun hc => absurd hc (by decide))
  refine lv_iload_n hx hb dL_act_194 rfl (lv_at hl 1 rfl) ?_
  refine lv_bipush (v := 11) hx hb dL_act_195 (by decide) ?_
  refine lv_icmp_ne (tgt := 216) hx hb dL_act_197 (by decide) (fun _ => ?_) (fun hc => absurd hc (by decide))
  refine lv_iload_n hx hb dL_act_216 rfl (lv_at hl 1 rfl) ?_
  refine lv_bipush (v := 12) hx hb dL_act_217 (by decide) ?_
  refine lv_icmp_ne (tgt := 240) hx hb dL_act_219 (by decide) (fun _ => ?_) (fun hc => absurd hc (by decide))
  refine lv_iload_n hx hb dL_act_240 rfl (lv_at hl 1 rfl) ?_
  refine lv_bipush (v := 13) hx hb dL_act_241 (by decide) ?_
  refine lv_icmp_ne (tgt := 254) hx hb dL_act_243 (by decide) (fun hc => absurd (by decide) hc) (fun _ => ?_)
  refine lv_aload_n hx hb dL_act_246 rfl (lv_at hl 0 rfl) ?_
  refine lv_iload_n hx hb dL_act_247 rfl (lv_at hl 2 rfl) ?_
  refine kgo_x (kx_V (As := [.int x1]) (rest := []) S hE hS hAb hC (cwV 1 hts gL_act_X4_probes rfl rfl rfl (by decide +kernel) ⟨Nat.le_of_ble_eq_true rfl, Nat.le_of_ble_eq_true rfl⟩) (hw.lv 0 0 (rfl : (0 : Nat) = 0)) rfl rfl hl.1 rfl (Nat.le_of_ble_eq_true rfl) dL_act_248 ⟨Nat.le_refl _, Nat.le_refl _⟩) hS (fun ce q9 H1 locs h1 h2 hS h4 h5 h6 => ?_)
  refine kcatch (E := "java/lang/IndexOutOfBoundsException") [] (0, 368, 369, 83) [(0, 368, 374, 85), (0, 368, 379, 87)] hE hown hT rfl (by decide) (by decide) (fun z hz => by simp at hz) (hts (.classLink RL 83 "java/lang/IndexOutOfBoundsException") (by decide +kernel)) (by decide +kernel) h4 h5 h6 ?_
  refine lv_astore (lv' := [(6, .ref q9), (0, .ref (ad 0 0)), (1, .int 13), (2, .int x1), (3, .int x2), (4, .int x3), (5, .int x4)]) hx hb dL_act_369 hl (by decide) rfl (fun ls hl => ?_)
  refine lv_bipush (v := -41) hx hb dL_act_371 (by decide) ?_
  refine kend_i S hr hlocks hS rfl dL_act_373
set_option maxHeartbeats 4000000 in
set_option maxRecDepth 100000 in
theorem ax_failures1 (ε : kEnv) (l : Launch) {A : Nat → Prop} {ad : Nat → Nat → Nat} {σ : kS} {H : Heap} {x1 x2 x3 x4 : Int32} (hw : kW ε A ad σ H) (hC : kX ε l yX4_failures wsX4_failures ({ frames := 7, cells := 1, slots := 6, locals := 120 }) [.ref (ad 0 0), .int x1] H "java/lang/IndexOutOfBoundsException") : kMi ε l yL_act wsL_act ({ frames := 11, cells := 1, slots := 6, locals := 310 }) [.ref (ad 0 0), .int 14, .int x1, .int x2, .int x3, .int x4] H kNo (1) (6) (fun r9 _ => r9 = -41) := by
  refine kofH (cc := cL_act) (maxL := 7) (ret := (some .int)) (hh := [(0, 368, 369, 83), (0, 368, 374, 85), (0, 368, 379, 87)]) (by decide) rfl (Nat.le_of_ble_eq_true rfl) ?_
  intro p e s m below meth c ls S hr hlocks hT hH hE hl
  have S : CallFix p m c cL_act 7 s _ wsL_act RL := S
  have hx := S.1
  have hb := S.2.1
  have hown : s.vm.findClass RL = some m.cls := S.2.2.2.1
  have hts := S.2.2.2.2
  have hK := hE.1
  have hS : va_S kNo s.heap H [] := by rw [hH]; exact va_S.rf
  have hAb : ∀ q, kNo q → kHi ε q := fun _ h => h.elim
  have hl : lv_has ls 7 [(0, .ref (ad 0 0)), (1, .int 14), (2, .int x1), (3, .int x2), (4, .int x3), (5, .int x4)] := hl
  refine lv_iload_n hx hb dL_act_0 rfl (lv_at hl 1 rfl) ?_
  refine lv_if_ne (tgt := 12) hx hb dL_act_1 (by decide) (fun _ => ?_) (fun hc => absurd hc (by decide))
  refine lv_iload_n hx hb dL_act_12 rfl (lv_at hl 1 rfl) ?_
  refine lv_iconst (v := 1) hx hb dL_act_13 (by decide) ?_
  refine lv_icmp_ne (tgt := 30) hx hb dL_act_14 (by decide) (fun _ => ?_) (fun hc => absurd hc (by decide))
  refine lv_iload_n hx hb dL_act_30 rfl (lv_at hl 1 rfl) ?_
  refine lv_iconst (v := 2) hx hb dL_act_31 (by decide) ?_
  refine lv_icmp_ne (tgt := 63) hx hb dL_act_32 (by decide) (fun _ => ?_) (fun hc => absurd hc (by decide))
  refine lv_iload_n hx hb dL_act_63 rfl (lv_at hl 1 rfl) ?_
  refine lv_iconst (v := 3) hx hb dL_act_64 (by decide) ?_
  refine lv_icmp_ne (tgt := 94) hx hb dL_act_65 (by decide) (fun _ => ?_) (fun hc => absurd hc (by decide))
  refine lv_iload_n hx hb dL_act_94 rfl (lv_at hl 1 rfl) ?_
  refine lv_iconst (v := 4) hx hb dL_act_95 (by decide) ?_
  refine lv_icmp_ne (tgt := 108) hx hb dL_act_96 (by decide) (fun _ => ?_) (fun hc => absurd hc (by decide))
  refine lv_iload_n hx hb dL_act_108 rfl (lv_at hl 1 rfl) ?_
  refine lv_iconst (v := 5) hx hb dL_act_109 (by decide) ?_
  refine lv_icmp_ne (tgt := 124) hx hb dL_act_110 (by decide) (fun _ => ?_) (fun hc => absurd hc (by decide))
  refine lv_iload_n hx hb dL_act_124 rfl (lv_at hl 1 rfl) ?_
  refine lv_bipush (v := 6) hx hb dL_act_125 (by decide) ?_
  refine lv_icmp_ne (tgt := 138) hx hb dL_act_127 (by decide) (fun _ => ?_) (fun hc => absurd hc (by decide))
  refine lv_iload_n hx hb dL_act_138 rfl (lv_at hl 1 rfl) ?_
  refine lv_bipush (v := 7) hx hb dL_act_139 (by decide) ?_
  refine lv_icmp_ne (tgt := 152) hx hb dL_act_141 (by decide) (fun _ => ?_) (fun hc => absurd hc (by decide))
  refine lv_iload_n hx hb dL_act_152 rfl (lv_at hl 1 rfl) ?_
  refine lv_bipush (v := 8) hx hb dL_act_153 (by decide) ?_
  refine lv_icmp_ne (tgt := 166) hx hb dL_act_155 (by decide) (fun _ => ?_) (fun hc => absurd hc (by decide))
  refine lv_iload_n hx hb dL_act_166 rfl (lv_at hl 1 rfl) ?_
  refine lv_bipush (v := 9) hx hb dL_act_167 (by decide) ?_
  refine lv_icmp_ne (tgt := 180) hx hb dL_act_169 (by decide) (fun _ => ?_) (fun hc => absurd hc (by decide))
  refine lv_iload_n hx hb dL_act_180 rfl (lv_at hl 1 rfl) ?_
  refine lv_bipush (v := 10) hx hb dL_act_181 (by decide) ?_
  refine lv_icmp_ne (tgt := 194) hx hb dL_act_183 (by decide) (fun _ => ?_) (fun hc => absurd hc (by decide))
  refine lv_iload_n hx hb dL_act_194 rfl (lv_at hl 1 rfl) ?_
  refine lv_bipush (v := 11) hx hb dL_act_195 (by decide) ?_
  refine lv_icmp_ne (tgt := 216) hx hb dL_act_197 (by decide) (fun _ => ?_) (fun hc => absurd hc (by decide))
  refine lv_iload_n hx hb dL_act_216 rfl (lv_at hl 1 rfl) ?_
  refine lv_bipush (v := 12) hx hb dL_act_217 (by decide) ?_
  refine lv_icmp_ne (tgt := 240) hx hb dL_act_219 (by decide) (fun _ => ?_) (fun hc => absurd hc (by decide))
  refine lv_iload_n hx hb dL_act_240 rfl (lv_at hl 1 rfl) ?_
  refine lv_bipush (v := 13) hx hb dL_act_241 (by decide) ?_
  refine lv_icmp_ne (tgt := 254) hx hb dL_act_243 (by decide) (fun _ => ?_) (fun hc => absurd hc (by decide))
  refine lv_iload_n hx hb dL_act_254 rfl (lv_at hl 1 rfl) ?_
  refine lv_bipush (v := 14) hx hb dL_act_255 (by decide) ?_
  refine lv_icmp_ne (tgt := 268) hx hb dL_act_257 (by decide) (fun hc => absurd (by decide) hc) (fun _ => ?_)
  refine lv_aload_n hx hb dL_act_260 rfl (lv_at hl 0 rfl) ?_
  refine lv_iload_n hx hb dL_act_261 rfl (lv_at hl 2 rfl) ?_
  refine kgo_x (kx_V (As := [.int x1]) (rest := []) S hE hS hAb hC (cwV 1 hts gL_act_X4_failures rfl rfl rfl (by decide +kernel) ⟨Nat.le_of_ble_eq_true rfl, Nat.le_of_ble_eq_true rfl⟩) (hw.lv 0 0 (rfl : (0 : Nat) = 0)) rfl rfl hl.1 rfl (Nat.le_of_ble_eq_true rfl) dL_act_262 ⟨Nat.le_refl _, Nat.le_refl _⟩) hS (fun ce q9 H1 locs h1 h2 hS h4 h5 h6 => ?_)
  refine kcatch (E := "java/lang/IndexOutOfBoundsException") [] (0, 368, 369, 83) [(0, 368, 374, 85), (0, 368, 379, 87)] hE hown hT rfl (by decide) (by decide) (fun z hz => by simp at hz) (hts (.classLink RL 83 "java/lang/IndexOutOfBoundsException") (by decide +kernel)) (by decide +kernel) h4 h5 h6 ?_
  refine lv_astore (lv' := [(6, .ref q9), (0, .ref (ad 0 0)), (1, .int 14), (2, .int x1), (3, .int x2), (4, .int x3), (5, .int x4)]) hx hb dL_act_369 hl (by decide) rfl (fun ls hl => ?_)
  refine lv_bipush (v := -41) hx hb dL_act_371 (by decide) ?_
  refine kend_i S hr hlocks hS rfl dL_act_373
set_option maxHeartbeats 4000000 in
set_option maxRecDepth 100000 in
theorem ax_isBad1 (ε : kEnv) (l : Launch) {A : Nat → Prop} {ad : Nat → Nat → Nat} {σ : kS} {H : Heap} {x1 x2 x3 x4 : Int32} (hw : kW ε A ad σ H) (hC : kX ε l yX4_isBad wsX4_isBad ({ frames := 7, cells := 1, slots := 6, locals := 120 }) [.ref (ad 0 0), .int x1] H "java/lang/IndexOutOfBoundsException") : kMi ε l yL_act wsL_act ({ frames := 11, cells := 1, slots := 6, locals := 310 }) [.ref (ad 0 0), .int 15, .int x1, .int x2, .int x3, .int x4] H kNo (1) (6) (fun r9 _ => r9 = -41) := by
  refine kofH (cc := cL_act) (maxL := 7) (ret := (some .int)) (hh := [(0, 368, 369, 83), (0, 368, 374, 85), (0, 368, 379, 87)]) (by decide) rfl (Nat.le_of_ble_eq_true rfl) ?_
  intro p e s m below meth c ls S hr hlocks hT hH hE hl
  have S : CallFix p m c cL_act 7 s _ wsL_act RL := S
  have hx := S.1
  have hb := S.2.1
  have hown : s.vm.findClass RL = some m.cls := S.2.2.2.1
  have hts := S.2.2.2.2
  have hK := hE.1
  have hS : va_S kNo s.heap H [] := by rw [hH]; exact va_S.rf
  have hAb : ∀ q, kNo q → kHi ε q := fun _ h => h.elim
  have hl : lv_has ls 7 [(0, .ref (ad 0 0)), (1, .int 15), (2, .int x1), (3, .int x2), (4, .int x3), (5, .int x4)] := hl
  refine lv_iload_n hx hb dL_act_0 rfl (lv_at hl 1 rfl) ?_
  refine lv_if_ne (tgt := 12) hx hb dL_act_1 (by decide) (fun _ => ?_) (fun hc => absurd hc (by decide))
  refine lv_iload_n hx hb dL_act_12 rfl (lv_at hl 1 rfl) ?_
  refine lv_iconst (v := 1) hx hb dL_act_13 (by decide) ?_
  refine lv_icmp_ne (tgt := 30) hx hb dL_act_14 (by decide) (fun _ => ?_) (fun hc => absurd hc (by decide))
  refine lv_iload_n hx hb dL_act_30 rfl (lv_at hl 1 rfl) ?_
  refine lv_iconst (v := 2) hx hb dL_act_31 (by decide) ?_
  refine lv_icmp_ne (tgt := 63) hx hb dL_act_32 (by decide) (fun _ => ?_) (fun hc => absurd hc (by decide))
  refine lv_iload_n hx hb dL_act_63 rfl (lv_at hl 1 rfl) ?_
  refine lv_iconst (v := 3) hx hb dL_act_64 (by decide) ?_
  refine lv_icmp_ne (tgt := 94) hx hb dL_act_65 (by decide) (fun _ => ?_) (fun hc => absurd hc (by decide))
  refine lv_iload_n hx hb dL_act_94 rfl (lv_at hl 1 rfl) ?_
  refine lv_iconst (v := 4) hx hb dL_act_95 (by decide) ?_
  refine lv_icmp_ne (tgt := 108) hx hb dL_act_96 (by decide) (fun _ => ?_) (fun hc => absurd hc (by decide))
  refine lv_iload_n hx hb dL_act_108 rfl (lv_at hl 1 rfl) ?_
  refine lv_iconst (v := 5) hx hb dL_act_109 (by decide) ?_
  refine lv_icmp_ne (tgt := 124) hx hb dL_act_110 (by decide) (fun _ => ?_) (fun hc => absurd hc (by decide))
  refine lv_iload_n hx hb dL_act_124 rfl (lv_at hl 1 rfl) ?_
  refine lv_bipush (v := 6) hx hb dL_act_125 (by decide) ?_
  refine lv_icmp_ne (tgt := 138) hx hb dL_act_127 (by decide) (fun _ => ?_) (fun hc => absurd hc (by decide))
  refine lv_iload_n hx hb dL_act_138 rfl (lv_at hl 1 rfl) ?_
  refine lv_bipush (v := 7) hx hb dL_act_139 (by decide) ?_
  refine lv_icmp_ne (tgt := 152) hx hb dL_act_141 (by decide) (fun _ => ?_) (fun hc => absurd hc (by decide))
  refine lv_iload_n hx hb dL_act_152 rfl (lv_at hl 1 rfl) ?_
  refine lv_bipush (v := 8) hx hb dL_act_153 (by decide) ?_
  refine lv_icmp_ne (tgt := 166) hx hb dL_act_155 (by decide) (fun _ => ?_) (fun hc => absurd hc (by decide))
  refine lv_iload_n hx hb dL_act_166 rfl (lv_at hl 1 rfl) ?_
  refine lv_bipush (v := 9) hx hb dL_act_167 (by decide) ?_
  refine lv_icmp_ne (tgt := 180) hx hb dL_act_169 (by decide) (fun _ => ?_) (fun hc => absurd hc (by decide))
  refine lv_iload_n hx hb dL_act_180 rfl (lv_at hl 1 rfl) ?_
  refine lv_bipush (v := 10) hx hb dL_act_181 (by decide) ?_
  refine lv_icmp_ne (tgt := 194) hx hb dL_act_183 (by decide) (fun _ => ?_) (fun hc => absurd hc (by decide))
  refine lv_iload_n hx hb dL_act_194 rfl (lv_at hl 1 rfl) ?_
  refine lv_bipush (v := 11) hx hb dL_act_195 (by decide) ?_
  refine lv_icmp_ne (tgt := 216) hx hb dL_act_197 (by decide) (fun _ => ?_) (fun hc => absurd hc (by decide))
  refine lv_iload_n hx hb dL_act_216 rfl (lv_at hl 1 rfl) ?_
  refine lv_bipush (v := 12) hx hb dL_act_217 (by decide) ?_
  refine lv_icmp_ne (tgt := 240) hx hb dL_act_219 (by decide) (fun _ => ?_) (fun hc => absurd hc (by decide))
  refine lv_iload_n hx hb dL_act_240 rfl (lv_at hl 1 rfl) ?_
  refine lv_bipush (v := 13) hx hb dL_act_241 (by decide) ?_
  refine lv_icmp_ne (tgt := 254) hx hb dL_act_243 (by decide) (fun _ => ?_) (fun hc => absurd hc (by decide))
  refine lv_iload_n hx hb dL_act_254 rfl (lv_at hl 1 rfl) ?_
  refine lv_bipush (v := 14) hx hb dL_act_255 (by decide) ?_
  refine lv_icmp_ne (tgt := 268) hx hb dL_act_257 (by decide) (fun _ => ?_) (fun hc => absurd hc (by decide))
  refine lv_iload_n hx hb dL_act_268 rfl (lv_at hl 1 rfl) ?_
  refine lv_bipush (v := 15) hx hb dL_act_269 (by decide) ?_
  refine lv_icmp_ne (tgt := 290) hx hb dL_act_271 (by decide) (fun hc => absurd (by decide) hc) (fun _ => ?_)
  refine lv_aload_n hx hb dL_act_274 rfl (lv_at hl 0 rfl) ?_
  refine lv_iload_n hx hb dL_act_275 rfl (lv_at hl 2 rfl) ?_
  refine kgo_x (kx_V (As := [.int x1]) (rest := []) S hE hS hAb hC (cwV 1 hts gL_act_X4_isBad rfl rfl rfl (by decide +kernel) ⟨Nat.le_of_ble_eq_true rfl, Nat.le_of_ble_eq_true rfl⟩) (hw.lv 0 0 (rfl : (0 : Nat) = 0)) rfl rfl hl.1 rfl (Nat.le_of_ble_eq_true rfl) dL_act_276 ⟨Nat.le_refl _, Nat.le_refl _⟩) hS (fun ce q9 H1 locs h1 h2 hS h4 h5 h6 => ?_)
  refine kcatch (E := "java/lang/IndexOutOfBoundsException") [] (0, 368, 369, 83) [(0, 368, 374, 85), (0, 368, 379, 87)] hE hown hT rfl (by decide) (by decide) (fun z hz => by simp at hz) (hts (.classLink RL 83 "java/lang/IndexOutOfBoundsException") (by decide +kernel)) (by decide +kernel) h4 h5 h6 ?_
  refine lv_astore (lv' := [(6, .ref q9), (0, .ref (ad 0 0)), (1, .int 15), (2, .int x1), (3, .int x2), (4, .int x3), (5, .int x4)]) hx hb dL_act_369 hl (by decide) rfl (fun ls hl => ?_)
  refine lv_bipush (v := -41) hx hb dL_act_371 (by decide) ?_
  refine kend_i S hr hlocks hS rfl dL_act_373
set_option maxHeartbeats 4000000 in
set_option maxRecDepth 100000 in
theorem ax_nextProbe1 (ε : kEnv) (l : Launch) {A : Nat → Prop} {ad : Nat → Nat → Nat} {σ : kS} {H : Heap} {x1 x2 x3 x4 : Int32} (hw : kW ε A ad σ H) (hC : kX ε l yX4_nextProbe wsX4_nextProbe ({ frames := 7, cells := 1, slots := 6, locals := 120 }) [.ref (ad 0 0), .int x1, .int x2] H "java/lang/IndexOutOfBoundsException") : kMi ε l yL_act wsL_act ({ frames := 11, cells := 1, slots := 6, locals := 310 }) [.ref (ad 0 0), .int 16, .int x1, .int x2, .int x3, .int x4] H kNo (1) (6) (fun r9 _ => r9 = -41) := by
  refine kofH (cc := cL_act) (maxL := 7) (ret := (some .int)) (hh := [(0, 368, 369, 83), (0, 368, 374, 85), (0, 368, 379, 87)]) (by decide) rfl (Nat.le_of_ble_eq_true rfl) ?_
  intro p e s m below meth c ls S hr hlocks hT hH hE hl
  have S : CallFix p m c cL_act 7 s _ wsL_act RL := S
  have hx := S.1
  have hb := S.2.1
  have hown : s.vm.findClass RL = some m.cls := S.2.2.2.1
  have hts := S.2.2.2.2
  have hK := hE.1
  have hS : va_S kNo s.heap H [] := by rw [hH]; exact va_S.rf
  have hAb : ∀ q, kNo q → kHi ε q := fun _ h => h.elim
  have hl : lv_has ls 7 [(0, .ref (ad 0 0)), (1, .int 16), (2, .int x1), (3, .int x2), (4, .int x3), (5, .int x4)] := hl
  refine lv_iload_n hx hb dL_act_0 rfl (lv_at hl 1 rfl) ?_
  refine lv_if_ne (tgt := 12) hx hb dL_act_1 (by decide) (fun _ => ?_) (fun hc => absurd hc (by decide))
  refine lv_iload_n hx hb dL_act_12 rfl (lv_at hl 1 rfl) ?_
  refine lv_iconst (v := 1) hx hb dL_act_13 (by decide) ?_
  refine lv_icmp_ne (tgt := 30) hx hb dL_act_14 (by decide) (fun _ => ?_) (fun hc => absurd hc (by decide))
  refine lv_iload_n hx hb dL_act_30 rfl (lv_at hl 1 rfl) ?_
  refine lv_iconst (v := 2) hx hb dL_act_31 (by decide) ?_
  refine lv_icmp_ne (tgt := 63) hx hb dL_act_32 (by decide) (fun _ => ?_) (fun hc => absurd hc (by decide))
  refine lv_iload_n hx hb dL_act_63 rfl (lv_at hl 1 rfl) ?_
  refine lv_iconst (v := 3) hx hb dL_act_64 (by decide) ?_
  refine lv_icmp_ne (tgt := 94) hx hb dL_act_65 (by decide) (fun _ => ?_) (fun hc => absurd hc (by decide))
  refine lv_iload_n hx hb dL_act_94 rfl (lv_at hl 1 rfl) ?_
  refine lv_iconst (v := 4) hx hb dL_act_95 (by decide) ?_
  refine lv_icmp_ne (tgt := 108) hx hb dL_act_96 (by decide) (fun _ => ?_) (fun hc => absurd hc (by decide))
  refine lv_iload_n hx hb dL_act_108 rfl (lv_at hl 1 rfl) ?_
  refine lv_iconst (v := 5) hx hb dL_act_109 (by decide) ?_
  refine lv_icmp_ne (tgt := 124) hx hb dL_act_110 (by decide) (fun _ => ?_) (fun hc => absurd hc (by decide))
  refine lv_iload_n hx hb dL_act_124 rfl (lv_at hl 1 rfl) ?_
  refine lv_bipush (v := 6) hx hb dL_act_125 (by decide) ?_
  refine lv_icmp_ne (tgt := 138) hx hb dL_act_127 (by decide) (fun _ => ?_) (fun hc => absurd hc (by decide))
  refine lv_iload_n hx hb dL_act_138 rfl (lv_at hl 1 rfl) ?_
  refine lv_bipush (v := 7) hx hb dL_act_139 (by decide) ?_
  refine lv_icmp_ne (tgt := 152) hx hb dL_act_141 (by decide) (fun _ => ?_) (fun hc => absurd hc (by decide))
  refine lv_iload_n hx hb dL_act_152 rfl (lv_at hl 1 rfl) ?_
  refine lv_bipush (v := 8) hx hb dL_act_153 (by decide) ?_
  refine lv_icmp_ne (tgt := 166) hx hb dL_act_155 (by decide) (fun _ => ?_) (fun hc => absurd hc (by decide))
  refine lv_iload_n hx hb dL_act_166 rfl (lv_at hl 1 rfl) ?_
  refine lv_bipush (v := 9) hx hb dL_act_167 (by decide) ?_
  refine lv_icmp_ne (tgt := 180) hx hb dL_act_169 (by decide) (fun _ => ?_) (fun hc => absurd hc (by decide))
  refine lv_iload_n hx hb dL_act_180 rfl (lv_at hl 1 rfl) ?_
  refine lv_bipush (v := 10) hx hb dL_act_181 (by decide) ?_
  refine lv_icmp_ne (tgt := 194) hx hb dL_act_183 (by decide) (fun _ => ?_) (fun hc => absurd hc (by decide))
  refine lv_iload_n hx hb dL_act_194 rfl (lv_at hl 1 rfl) ?_
  refine lv_bipush (v := 11) hx hb dL_act_195 (by decide) ?_
  refine lv_icmp_ne (tgt := 216) hx hb dL_act_197 (by decide) (fun _ => ?_) (fun hc => absurd hc (by decide))
  refine lv_iload_n hx hb dL_act_216 rfl (lv_at hl 1 rfl) ?_
  refine lv_bipush (v := 12) hx hb dL_act_217 (by decide) ?_
  refine lv_icmp_ne (tgt := 240) hx hb dL_act_219 (by decide) (fun _ => ?_) (fun hc => absurd hc (by decide))
  refine lv_iload_n hx hb dL_act_240 rfl (lv_at hl 1 rfl) ?_
  refine lv_bipush (v := 13) hx hb dL_act_241 (by decide) ?_
  refine lv_icmp_ne (tgt := 254) hx hb dL_act_243 (by decide) (fun _ => ?_) (fun hc => absurd hc (by decide))
  refine lv_iload_n hx hb dL_act_254 rfl (lv_at hl 1 rfl) ?_
  refine lv_bipush (v := 14) hx hb dL_act_255 (by decide) ?_
  refine lv_icmp_ne (tgt := 268) hx hb dL_act_257 (by decide) (fun _ => ?_) (fun hc => absurd hc (by decide))
  refine lv_iload_n hx hb dL_act_268 rfl (lv_at hl 1 rfl) ?_
  refine lv_bipush (v := 15) hx hb dL_act_269 (by decide) ?_
  refine lv_icmp_ne (tgt := 290) hx hb dL_act_271 (by decide) (fun _ => ?_) (fun hc => absurd hc (by decide))
  refine lv_iload_n hx hb dL_act_290 rfl (lv_at hl 1 rfl) ?_
  refine lv_bipush (v := 16) hx hb dL_act_291 (by decide) ?_
  refine lv_icmp_ne (tgt := 305) hx hb dL_act_293 (by decide) (fun hc => absurd (by decide) hc) (fun _ => ?_)
  refine lv_aload_n hx hb dL_act_296 rfl (lv_at hl 0 rfl) ?_
  refine lv_iload_n hx hb dL_act_297 rfl (lv_at hl 2 rfl) ?_
  refine lv_iload_n hx hb dL_act_298 rfl (lv_at hl 3 rfl) ?_
  refine kgo_x (kx_V (As := [.int x1, .int x2]) (rest := []) S hE hS hAb hC (cwV 2 hts gL_act_X4_nextProbe rfl rfl rfl (by decide +kernel) ⟨Nat.le_of_ble_eq_true rfl, Nat.le_of_ble_eq_true rfl⟩) (hw.lv 0 0 (rfl : (0 : Nat) = 0)) rfl rfl hl.1 rfl (Nat.le_of_ble_eq_true rfl) dL_act_299 ⟨Nat.le_refl _, Nat.le_refl _⟩) hS (fun ce q9 H1 locs h1 h2 hS h4 h5 h6 => ?_)
  refine kcatch (E := "java/lang/IndexOutOfBoundsException") [] (0, 368, 369, 83) [(0, 368, 374, 85), (0, 368, 379, 87)] hE hown hT rfl (by decide) (by decide) (fun z hz => by simp at hz) (hts (.classLink RL 83 "java/lang/IndexOutOfBoundsException") (by decide +kernel)) (by decide +kernel) h4 h5 h6 ?_
  refine lv_astore (lv' := [(6, .ref q9), (0, .ref (ad 0 0)), (1, .int 16), (2, .int x1), (3, .int x2), (4, .int x3), (5, .int x4)]) hx hb dL_act_369 hl (by decide) rfl (fun ls hl => ?_)
  refine lv_bipush (v := -41) hx hb dL_act_371 (by decide) ?_
  refine kend_i S hr hlocks hS rfl dL_act_373
set_option maxHeartbeats 4000000 in
set_option maxRecDepth 100000 in
theorem ax_repetition1 (ε : kEnv) (l : Launch) {A : Nat → Prop} {ad : Nat → Nat → Nat} {σ : kS} {H : Heap} {x1 x2 x3 x4 : Int32} (hw : kW ε A ad σ H) (hC : kX ε l yX4_repetition wsX4_repetition ({ frames := 7, cells := 1, slots := 6, locals := 120 }) [.ref (ad 0 0), .int x1, .int x2] H "java/lang/IndexOutOfBoundsException") : kMi ε l yL_act wsL_act ({ frames := 11, cells := 1, slots := 6, locals := 310 }) [.ref (ad 0 0), .int 17, .int x1, .int x2, .int x3, .int x4] H kNo (1) (6) (fun r9 _ => r9 = -41) := by
  refine kofH (cc := cL_act) (maxL := 7) (ret := (some .int)) (hh := [(0, 368, 369, 83), (0, 368, 374, 85), (0, 368, 379, 87)]) (by decide) rfl (Nat.le_of_ble_eq_true rfl) ?_
  intro p e s m below meth c ls S hr hlocks hT hH hE hl
  have S : CallFix p m c cL_act 7 s _ wsL_act RL := S
  have hx := S.1
  have hb := S.2.1
  have hown : s.vm.findClass RL = some m.cls := S.2.2.2.1
  have hts := S.2.2.2.2
  have hK := hE.1
  have hS : va_S kNo s.heap H [] := by rw [hH]; exact va_S.rf
  have hAb : ∀ q, kNo q → kHi ε q := fun _ h => h.elim
  have hl : lv_has ls 7 [(0, .ref (ad 0 0)), (1, .int 17), (2, .int x1), (3, .int x2), (4, .int x3), (5, .int x4)] := hl
  refine lv_iload_n hx hb dL_act_0 rfl (lv_at hl 1 rfl) ?_
  refine lv_if_ne (tgt := 12) hx hb dL_act_1 (by decide) (fun _ => ?_) (fun hc => absurd hc (by decide))
  refine lv_iload_n hx hb dL_act_12 rfl (lv_at hl 1 rfl) ?_
  refine lv_iconst (v := 1) hx hb dL_act_13 (by decide) ?_
  refine lv_icmp_ne (tgt := 30) hx hb dL_act_14 (by decide) (fun _ => ?_) (fun hc => absurd hc (by decide))
  refine lv_iload_n hx hb dL_act_30 rfl (lv_at hl 1 rfl) ?_
  refine lv_iconst (v := 2) hx hb dL_act_31 (by decide) ?_
  refine lv_icmp_ne (tgt := 63) hx hb dL_act_32 (by decide) (fun _ => ?_) (fun hc => absurd hc (by decide))
  refine lv_iload_n hx hb dL_act_63 rfl (lv_at hl 1 rfl) ?_
  refine lv_iconst (v := 3) hx hb dL_act_64 (by decide) ?_
  refine lv_icmp_ne (tgt := 94) hx hb dL_act_65 (by decide) (fun _ => ?_) (fun hc => absurd hc (by decide))
  refine lv_iload_n hx hb dL_act_94 rfl (lv_at hl 1 rfl) ?_
  refine lv_iconst (v := 4) hx hb dL_act_95 (by decide) ?_
  refine lv_icmp_ne (tgt := 108) hx hb dL_act_96 (by decide) (fun _ => ?_) (fun hc => absurd hc (by decide))
  refine lv_iload_n hx hb dL_act_108 rfl (lv_at hl 1 rfl) ?_
  refine lv_iconst (v := 5) hx hb dL_act_109 (by decide) ?_
  refine lv_icmp_ne (tgt := 124) hx hb dL_act_110 (by decide) (fun _ => ?_) (fun hc => absurd hc (by decide))
  refine lv_iload_n hx hb dL_act_124 rfl (lv_at hl 1 rfl) ?_
  refine lv_bipush (v := 6) hx hb dL_act_125 (by decide) ?_
  refine lv_icmp_ne (tgt := 138) hx hb dL_act_127 (by decide) (fun _ => ?_) (fun hc => absurd hc (by decide))
  refine lv_iload_n hx hb dL_act_138 rfl (lv_at hl 1 rfl) ?_
  refine lv_bipush (v := 7) hx hb dL_act_139 (by decide) ?_
  refine lv_icmp_ne (tgt := 152) hx hb dL_act_141 (by decide) (fun _ => ?_) (fun hc => absurd hc (by decide))
  refine lv_iload_n hx hb dL_act_152 rfl (lv_at hl 1 rfl) ?_
  refine lv_bipush (v := 8) hx hb dL_act_153 (by decide) ?_
  refine lv_icmp_ne (tgt := 166) hx hb dL_act_155 (by decide) (fun _ => ?_) (fun hc => absurd hc (by decide))
  refine lv_iload_n hx hb dL_act_166 rfl (lv_at hl 1 rfl) ?_
  refine lv_bipush (v := 9) hx hb dL_act_167 (by decide) ?_
  refine lv_icmp_ne (tgt := 180) hx hb dL_act_169 (by decide) (fun _ => ?_) (fun hc => absurd hc (by decide))
  refine lv_iload_n hx hb dL_act_180 rfl (lv_at hl 1 rfl) ?_
  refine lv_bipush (v := 10) hx hb dL_act_181 (by decide) ?_
  refine lv_icmp_ne (tgt := 194) hx hb dL_act_183 (by decide) (fun _ => ?_) (fun hc => absurd hc (by decide))
  refine lv_iload_n hx hb dL_act_194 rfl (lv_at hl 1 rfl) ?_
  refine lv_bipush (v := 11) hx hb dL_act_195 (by decide) ?_
  refine lv_icmp_ne (tgt := 216) hx hb dL_act_197 (by decide) (fun _ => ?_) (fun hc => absurd hc (by decide))
  refine lv_iload_n hx hb dL_act_216 rfl (lv_at hl 1 rfl) ?_
  refine lv_bipush (v := 12) hx hb dL_act_217 (by decide) ?_
  refine lv_icmp_ne (tgt := 240) hx hb dL_act_219 (by decide) (fun _ => ?_) (fun hc => absurd hc (by decide))
  refine lv_iload_n hx hb dL_act_240 rfl (lv_at hl 1 rfl) ?_
  refine lv_bipush (v := 13) hx hb dL_act_241 (by decide) ?_
  refine lv_icmp_ne (tgt := 254) hx hb dL_act_243 (by decide) (fun _ => ?_) (fun hc => absurd hc (by decide))
  refine lv_iload_n hx hb dL_act_254 rfl (lv_at hl 1 rfl) ?_
  refine lv_bipush (v := 14) hx hb dL_act_255 (by decide) ?_
  refine lv_icmp_ne (tgt := 268) hx hb dL_act_257 (by decide) (fun _ => ?_) (fun hc => absurd hc (by decide))
  refine lv_iload_n hx hb dL_act_268 rfl (lv_at hl 1 rfl) ?_
  refine lv_bipush (v := 15) hx hb dL_act_269 (by decide) ?_
  refine lv_icmp_ne (tgt := 290) hx hb dL_act_271 (by decide) (fun _ => ?_) (fun hc => absurd hc (by decide))
  refine lv_iload_n hx hb dL_act_290 rfl (lv_at hl 1 rfl) ?_
  refine lv_bipush (v := 16) hx hb dL_act_291 (by decide) ?_
  refine lv_icmp_ne (tgt := 305) hx hb dL_act_293 (by decide) (fun _ => ?_) (fun hc => absurd hc (by decide))
  refine lv_iload_n hx hb dL_act_305 rfl (lv_at hl 1 rfl) ?_
  refine lv_bipush (v := 17) hx hb dL_act_306 (by decide) ?_
  refine lv_icmp_ne (tgt := 320) hx hb dL_act_308 (by decide) (fun hc => absurd (by decide) hc) (fun _ => ?_)
  refine lv_aload_n hx hb dL_act_311 rfl (lv_at hl 0 rfl) ?_
  refine lv_iload_n hx hb dL_act_312 rfl (lv_at hl 2 rfl) ?_
  refine lv_iload_n hx hb dL_act_313 rfl (lv_at hl 3 rfl) ?_
  refine kgo_x (kx_V (As := [.int x1, .int x2]) (rest := []) S hE hS hAb hC (cwV 2 hts gL_act_X4_repetition rfl rfl rfl (by decide +kernel) ⟨Nat.le_of_ble_eq_true rfl, Nat.le_of_ble_eq_true rfl⟩) (hw.lv 0 0 (rfl : (0 : Nat) = 0)) rfl rfl hl.1 rfl (Nat.le_of_ble_eq_true rfl) dL_act_314 ⟨Nat.le_refl _, Nat.le_refl _⟩) hS (fun ce q9 H1 locs h1 h2 hS h4 h5 h6 => ?_)
  refine kcatch (E := "java/lang/IndexOutOfBoundsException") [] (0, 368, 369, 83) [(0, 368, 374, 85), (0, 368, 379, 87)] hE hown hT rfl (by decide) (by decide) (fun z hz => by simp at hz) (hts (.classLink RL 83 "java/lang/IndexOutOfBoundsException") (by decide +kernel)) (by decide +kernel) h4 h5 h6 ?_
  refine lv_astore (lv' := [(6, .ref q9), (0, .ref (ad 0 0)), (1, .int 17), (2, .int x1), (3, .int x2), (4, .int x3), (5, .int x4)]) hx hb dL_act_369 hl (by decide) rfl (fun ls hl => ?_)
  refine lv_bipush (v := -41) hx hb dL_act_371 (by decide) ?_
  refine kend_i S hr hlocks hS rfl dL_act_373
set_option maxHeartbeats 4000000 in
set_option maxRecDepth 100000 in
theorem ax_vote1 (ε : kEnv) (l : Launch) {A : Nat → Prop} {ad : Nat → Nat → Nat} {σ : kS} {H : Heap} {x1 x2 x3 x4 : Int32} (hw : kW ε A ad σ H) (hC : kX ε l yX4_vote wsX4_vote ({ frames := 7, cells := 1, slots := 6, locals := 120 }) [.ref (ad 0 0), .int x1, .int x2] H "java/lang/IndexOutOfBoundsException") : kMi ε l yL_act wsL_act ({ frames := 11, cells := 1, slots := 6, locals := 310 }) [.ref (ad 0 0), .int 18, .int x1, .int x2, .int x3, .int x4] H kNo (1) (6) (fun r9 _ => r9 = -41) := by
  refine kofH (cc := cL_act) (maxL := 7) (ret := (some .int)) (hh := [(0, 368, 369, 83), (0, 368, 374, 85), (0, 368, 379, 87)]) (by decide) rfl (Nat.le_of_ble_eq_true rfl) ?_
  intro p e s m below meth c ls S hr hlocks hT hH hE hl
  have S : CallFix p m c cL_act 7 s _ wsL_act RL := S
  have hx := S.1
  have hb := S.2.1
  have hown : s.vm.findClass RL = some m.cls := S.2.2.2.1
  have hts := S.2.2.2.2
  have hK := hE.1
  have hS : va_S kNo s.heap H [] := by rw [hH]; exact va_S.rf
  have hAb : ∀ q, kNo q → kHi ε q := fun _ h => h.elim
  have hl : lv_has ls 7 [(0, .ref (ad 0 0)), (1, .int 18), (2, .int x1), (3, .int x2), (4, .int x3), (5, .int x4)] := hl
  refine lv_iload_n hx hb dL_act_0 rfl (lv_at hl 1 rfl) ?_
  refine lv_if_ne (tgt := 12) hx hb dL_act_1 (by decide) (fun _ => ?_) (fun hc => absurd hc (by decide))
  refine lv_iload_n hx hb dL_act_12 rfl (lv_at hl 1 rfl) ?_
  refine lv_iconst (v := 1) hx hb dL_act_13 (by decide) ?_
  refine lv_icmp_ne (tgt := 30) hx hb dL_act_14 (by decide) (fun _ => ?_) (fun hc => absurd hc (by decide))
  refine lv_iload_n hx hb dL_act_30 rfl (lv_at hl 1 rfl) ?_
  refine lv_iconst (v := 2) hx hb dL_act_31 (by decide) ?_
  refine lv_icmp_ne (tgt := 63) hx hb dL_act_32 (by decide) (fun _ => ?_) (fun hc => absurd hc (by decide))
  refine lv_iload_n hx hb dL_act_63 rfl (lv_at hl 1 rfl) ?_
  refine lv_iconst (v := 3) hx hb dL_act_64 (by decide) ?_
  refine lv_icmp_ne (tgt := 94) hx hb dL_act_65 (by decide) (fun _ => ?_) (fun hc => absurd hc (by decide))
  refine lv_iload_n hx hb dL_act_94 rfl (lv_at hl 1 rfl) ?_
  refine lv_iconst (v := 4) hx hb dL_act_95 (by decide) ?_
  refine lv_icmp_ne (tgt := 108) hx hb dL_act_96 (by decide) (fun _ => ?_) (fun hc => absurd hc (by decide))
  refine lv_iload_n hx hb dL_act_108 rfl (lv_at hl 1 rfl) ?_
  refine lv_iconst (v := 5) hx hb dL_act_109 (by decide) ?_
  refine lv_icmp_ne (tgt := 124) hx hb dL_act_110 (by decide) (fun _ => ?_) (fun hc => absurd hc (by decide))
  refine lv_iload_n hx hb dL_act_124 rfl (lv_at hl 1 rfl) ?_
  refine lv_bipush (v := 6) hx hb dL_act_125 (by decide) ?_
  refine lv_icmp_ne (tgt := 138) hx hb dL_act_127 (by decide) (fun _ => ?_) (fun hc => absurd hc (by decide))
  refine lv_iload_n hx hb dL_act_138 rfl (lv_at hl 1 rfl) ?_
  refine lv_bipush (v := 7) hx hb dL_act_139 (by decide) ?_
  refine lv_icmp_ne (tgt := 152) hx hb dL_act_141 (by decide) (fun _ => ?_) (fun hc => absurd hc (by decide))
  refine lv_iload_n hx hb dL_act_152 rfl (lv_at hl 1 rfl) ?_
  refine lv_bipush (v := 8) hx hb dL_act_153 (by decide) ?_
  refine lv_icmp_ne (tgt := 166) hx hb dL_act_155 (by decide) (fun _ => ?_) (fun hc => absurd hc (by decide))
  refine lv_iload_n hx hb dL_act_166 rfl (lv_at hl 1 rfl) ?_
  refine lv_bipush (v := 9) hx hb dL_act_167 (by decide) ?_
  refine lv_icmp_ne (tgt := 180) hx hb dL_act_169 (by decide) (fun _ => ?_) (fun hc => absurd hc (by decide))
  refine lv_iload_n hx hb dL_act_180 rfl (lv_at hl 1 rfl) ?_
  refine lv_bipush (v := 10) hx hb dL_act_181 (by decide) ?_
  refine lv_icmp_ne (tgt := 194) hx hb dL_act_183 (by decide) (fun _ => ?_) (fun hc => absurd hc (by decide))
  refine lv_iload_n hx hb dL_act_194 rfl (lv_at hl 1 rfl) ?_
  refine lv_bipush (v := 11) hx hb dL_act_195 (by decide) ?_
  refine lv_icmp_ne (tgt := 216) hx hb dL_act_197 (by decide) (fun _ => ?_) (fun hc => absurd hc (by decide))
  refine lv_iload_n hx hb dL_act_216 rfl (lv_at hl 1 rfl) ?_
  refine lv_bipush (v := 12) hx hb dL_act_217 (by decide) ?_
  refine lv_icmp_ne (tgt := 240) hx hb dL_act_219 (by decide) (fun _ => ?_) (fun hc => absurd hc (by decide))
  refine lv_iload_n hx hb dL_act_240 rfl (lv_at hl 1 rfl) ?_
  refine lv_bipush (v := 13) hx hb dL_act_241 (by decide) ?_
  refine lv_icmp_ne (tgt := 254) hx hb dL_act_243 (by decide) (fun _ => ?_) (fun hc => absurd hc (by decide))
  refine lv_iload_n hx hb dL_act_254 rfl (lv_at hl 1 rfl) ?_
  refine lv_bipush (v := 14) hx hb dL_act_255 (by decide) ?_
  refine lv_icmp_ne (tgt := 268) hx hb dL_act_257 (by decide) (fun _ => ?_) (fun hc => absurd hc (by decide))
  refine lv_iload_n hx hb dL_act_268 rfl (lv_at hl 1 rfl) ?_
  refine lv_bipush (v := 15) hx hb dL_act_269 (by decide) ?_
  refine lv_icmp_ne (tgt := 290) hx hb dL_act_271 (by decide) (fun _ => ?_) (fun hc => absurd hc (by decide))
  refine lv_iload_n hx hb dL_act_290 rfl (lv_at hl 1 rfl) ?_
  refine lv_bipush (v := 16) hx hb dL_act_291 (by decide) ?_
  refine lv_icmp_ne (tgt := 305) hx hb dL_act_293 (by decide) (fun _ => ?_) (fun hc => absurd hc (by decide))
  refine lv_iload_n hx hb dL_act_305 rfl (lv_at hl 1 rfl) ?_
  refine lv_bipush (v := 17) hx hb dL_act_306 (by decide) ?_
  refine lv_icmp_ne (tgt := 320) hx hb dL_act_308 (by decide) (fun _ => ?_) (fun hc => absurd hc (by decide))
  refine lv_iload_n hx hb dL_act_320 rfl (lv_at hl 1 rfl) ?_
  refine lv_bipush (v := 18) hx hb dL_act_321 (by decide) ?_
  refine lv_icmp_ne (tgt := 335) hx hb dL_act_323 (by decide) (fun hc => absurd (by decide) hc) (fun _ => ?_)
  refine lv_aload_n hx hb dL_act_326 rfl (lv_at hl 0 rfl) ?_
  refine lv_iload_n hx hb dL_act_327 rfl (lv_at hl 2 rfl) ?_
  refine lv_iload_n hx hb dL_act_328 rfl (lv_at hl 3 rfl) ?_
  refine kgo_x (kx_V (As := [.int x1, .int x2]) (rest := []) S hE hS hAb hC (cwV 2 hts gL_act_X4_vote rfl rfl rfl (by decide +kernel) ⟨Nat.le_of_ble_eq_true rfl, Nat.le_of_ble_eq_true rfl⟩) (hw.lv 0 0 (rfl : (0 : Nat) = 0)) rfl rfl hl.1 rfl (Nat.le_of_ble_eq_true rfl) dL_act_329 ⟨Nat.le_refl _, Nat.le_refl _⟩) hS (fun ce q9 H1 locs h1 h2 hS h4 h5 h6 => ?_)
  refine kcatch (E := "java/lang/IndexOutOfBoundsException") [] (0, 368, 369, 83) [(0, 368, 374, 85), (0, 368, 379, 87)] hE hown hT rfl (by decide) (by decide) (fun z hz => by simp at hz) (hts (.classLink RL 83 "java/lang/IndexOutOfBoundsException") (by decide +kernel)) (by decide +kernel) h4 h5 h6 ?_
  refine lv_astore (lv' := [(6, .ref q9), (0, .ref (ad 0 0)), (1, .int 18), (2, .int x1), (3, .int x2), (4, .int x3), (5, .int x4)]) hx hb dL_act_369 hl (by decide) rfl (fun ls hl => ?_)
  refine lv_bipush (v := -41) hx hb dL_act_371 (by decide) ?_
  refine kend_i S hr hlocks hS rfl dL_act_373
set_option maxHeartbeats 4000000 in
set_option maxRecDepth 100000 in
theorem ax_alarmCheck1 (ε : kEnv) (l : Launch) {A : Nat → Prop} {ad : Nat → Nat → Nat} {σ : kS} {H : Heap} {x1 x2 x3 x4 : Int32} (hw : kW ε A ad σ H) (hC : kX ε l yX4_alarmCheck wsX4_alarmCheck ({ frames := 7, cells := 1, slots := 6, locals := 120 }) [.ref (ad 0 0), .int x1] H "java/lang/IndexOutOfBoundsException") : kMi ε l yL_act wsL_act ({ frames := 11, cells := 1, slots := 6, locals := 310 }) [.ref (ad 0 0), .int 19, .int x1, .int x2, .int x3, .int x4] H kNo (1) (6) (fun r9 _ => r9 = -41) := by
  refine kofH (cc := cL_act) (maxL := 7) (ret := (some .int)) (hh := [(0, 368, 369, 83), (0, 368, 374, 85), (0, 368, 379, 87)]) (by decide) rfl (Nat.le_of_ble_eq_true rfl) ?_
  intro p e s m below meth c ls S hr hlocks hT hH hE hl
  have S : CallFix p m c cL_act 7 s _ wsL_act RL := S
  have hx := S.1
  have hb := S.2.1
  have hown : s.vm.findClass RL = some m.cls := S.2.2.2.1
  have hts := S.2.2.2.2
  have hK := hE.1
  have hS : va_S kNo s.heap H [] := by rw [hH]; exact va_S.rf
  have hAb : ∀ q, kNo q → kHi ε q := fun _ h => h.elim
  have hl : lv_has ls 7 [(0, .ref (ad 0 0)), (1, .int 19), (2, .int x1), (3, .int x2), (4, .int x3), (5, .int x4)] := hl
  refine lv_iload_n hx hb dL_act_0 rfl (lv_at hl 1 rfl) ?_
  refine lv_if_ne (tgt := 12) hx hb dL_act_1 (by decide) (fun _ => ?_) (fun hc => absurd hc (by decide))
  refine lv_iload_n hx hb dL_act_12 rfl (lv_at hl 1 rfl) ?_
  refine lv_iconst (v := 1) hx hb dL_act_13 (by decide) ?_
  refine lv_icmp_ne (tgt := 30) hx hb dL_act_14 (by decide) (fun _ => ?_) (fun hc => absurd hc (by decide))
  refine lv_iload_n hx hb dL_act_30 rfl (lv_at hl 1 rfl) ?_
  refine lv_iconst (v := 2) hx hb dL_act_31 (by decide) ?_
  refine lv_icmp_ne (tgt := 63) hx hb dL_act_32 (by decide) (fun _ => ?_) (fun hc => absurd hc (by decide))
  refine lv_iload_n hx hb dL_act_63 rfl (lv_at hl 1 rfl) ?_
  refine lv_iconst (v := 3) hx hb dL_act_64 (by decide) ?_
  refine lv_icmp_ne (tgt := 94) hx hb dL_act_65 (by decide) (fun _ => ?_) (fun hc => absurd hc (by decide))
  refine lv_iload_n hx hb dL_act_94 rfl (lv_at hl 1 rfl) ?_
  refine lv_iconst (v := 4) hx hb dL_act_95 (by decide) ?_
  refine lv_icmp_ne (tgt := 108) hx hb dL_act_96 (by decide) (fun _ => ?_) (fun hc => absurd hc (by decide))
  refine lv_iload_n hx hb dL_act_108 rfl (lv_at hl 1 rfl) ?_
  refine lv_iconst (v := 5) hx hb dL_act_109 (by decide) ?_
  refine lv_icmp_ne (tgt := 124) hx hb dL_act_110 (by decide) (fun _ => ?_) (fun hc => absurd hc (by decide))
  refine lv_iload_n hx hb dL_act_124 rfl (lv_at hl 1 rfl) ?_
  refine lv_bipush (v := 6) hx hb dL_act_125 (by decide) ?_
  refine lv_icmp_ne (tgt := 138) hx hb dL_act_127 (by decide) (fun _ => ?_) (fun hc => absurd hc (by decide))
  refine lv_iload_n hx hb dL_act_138 rfl (lv_at hl 1 rfl) ?_
  refine lv_bipush (v := 7) hx hb dL_act_139 (by decide) ?_
  refine lv_icmp_ne (tgt := 152) hx hb dL_act_141 (by decide) (fun _ => ?_) (fun hc => absurd hc (by decide))
  refine lv_iload_n hx hb dL_act_152 rfl (lv_at hl 1 rfl) ?_
  refine lv_bipush (v := 8) hx hb dL_act_153 (by decide) ?_
  refine lv_icmp_ne (tgt := 166) hx hb dL_act_155 (by decide) (fun _ => ?_) (fun hc => absurd hc (by decide))
  refine lv_iload_n hx hb dL_act_166 rfl (lv_at hl 1 rfl) ?_
  refine lv_bipush (v := 9) hx hb dL_act_167 (by decide) ?_
  refine lv_icmp_ne (tgt := 180) hx hb dL_act_169 (by decide) (fun _ => ?_) (fun hc => absurd hc (by decide))
  refine lv_iload_n hx hb dL_act_180 rfl (lv_at hl 1 rfl) ?_
  refine lv_bipush (v := 10) hx hb dL_act_181 (by decide) ?_
  refine lv_icmp_ne (tgt := 194) hx hb dL_act_183 (by decide) (fun _ => ?_) (fun hc => absurd hc (by decide))
  refine lv_iload_n hx hb dL_act_194 rfl (lv_at hl 1 rfl) ?_
  refine lv_bipush (v := 11) hx hb dL_act_195 (by decide) ?_
  refine lv_icmp_ne (tgt := 216) hx hb dL_act_197 (by decide) (fun _ => ?_) (fun hc => absurd hc (by decide))
  refine lv_iload_n hx hb dL_act_216 rfl (lv_at hl 1 rfl) ?_
  refine lv_bipush (v := 12) hx hb dL_act_217 (by decide) ?_
  refine lv_icmp_ne (tgt := 240) hx hb dL_act_219 (by decide) (fun _ => ?_) (fun hc => absurd hc (by decide))
  refine lv_iload_n hx hb dL_act_240 rfl (lv_at hl 1 rfl) ?_
  refine lv_bipush (v := 13) hx hb dL_act_241 (by decide) ?_
  refine lv_icmp_ne (tgt := 254) hx hb dL_act_243 (by decide) (fun _ => ?_) (fun hc => absurd hc (by decide))
  refine lv_iload_n hx hb dL_act_254 rfl (lv_at hl 1 rfl) ?_
  refine lv_bipush (v := 14) hx hb dL_act_255 (by decide) ?_
  refine lv_icmp_ne (tgt := 268) hx hb dL_act_257 (by decide) (fun _ => ?_) (fun hc => absurd hc (by decide))
  refine lv_iload_n hx hb dL_act_268 rfl (lv_at hl 1 rfl) ?_
  refine lv_bipush (v := 15) hx hb dL_act_269 (by decide) ?_
  refine lv_icmp_ne (tgt := 290) hx hb dL_act_271 (by decide) (fun _ => ?_) (fun hc => absurd hc (by decide))
  refine lv_iload_n hx hb dL_act_290 rfl (lv_at hl 1 rfl) ?_
  refine lv_bipush (v := 16) hx hb dL_act_291 (by decide) ?_
  refine lv_icmp_ne (tgt := 305) hx hb dL_act_293 (by decide) (fun _ => ?_) (fun hc => absurd hc (by decide))
  refine lv_iload_n hx hb dL_act_305 rfl (lv_at hl 1 rfl) ?_
  refine lv_bipush (v := 17) hx hb dL_act_306 (by decide) ?_
  refine lv_icmp_ne (tgt := 320) hx hb dL_act_308 (by decide) (fun _ => ?_) (fun hc => absurd hc (by decide))
  refine lv_iload_n hx hb dL_act_320 rfl (lv_at hl 1 rfl) ?_
  refine lv_bipush (v := 18) hx hb dL_act_321 (by decide) ?_
  refine lv_icmp_ne (tgt := 335) hx hb dL_act_323 (by decide) (fun _ => ?_) (fun hc => absurd hc (by decide))
  refine lv_iload_n hx hb dL_act_335 rfl (lv_at hl 1 rfl) ?_
  refine lv_bipush (v := 19) hx hb dL_act_336 (by decide) ?_
  refine lv_icmp_ne (tgt := 349) hx hb dL_act_338 (by decide) (fun hc => absurd (by decide) hc) (fun _ => ?_)
  refine lv_aload_n hx hb dL_act_341 rfl (lv_at hl 0 rfl) ?_
  refine lv_iload_n hx hb dL_act_342 rfl (lv_at hl 2 rfl) ?_
  refine kgo_x (kx_V (As := [.int x1]) (rest := []) S hE hS hAb hC (cwV 1 hts gL_act_X4_alarmCheck rfl rfl rfl (by decide +kernel) ⟨Nat.le_of_ble_eq_true rfl, Nat.le_of_ble_eq_true rfl⟩) (hw.lv 0 0 (rfl : (0 : Nat) = 0)) rfl rfl hl.1 rfl (Nat.le_of_ble_eq_true rfl) dL_act_343 ⟨Nat.le_refl _, Nat.le_refl _⟩) hS (fun ce q9 H1 locs h1 h2 hS h4 h5 h6 => ?_)
  refine kcatch (E := "java/lang/IndexOutOfBoundsException") [] (0, 368, 369, 83) [(0, 368, 374, 85), (0, 368, 379, 87)] hE hown hT rfl (by decide) (by decide) (fun z hz => by simp at hz) (hts (.classLink RL 83 "java/lang/IndexOutOfBoundsException") (by decide +kernel)) (by decide +kernel) h4 h5 h6 ?_
  refine lv_astore (lv' := [(6, .ref q9), (0, .ref (ad 0 0)), (1, .int 19), (2, .int x1), (3, .int x2), (4, .int x3), (5, .int x4)]) hx hb dL_act_369 hl (by decide) rfl (fun ls hl => ?_)
  refine lv_bipush (v := -41) hx hb dL_act_371 (by decide) ?_
  refine kend_i S hr hlocks hS rfl dL_act_373
set_option maxHeartbeats 4000000 in
set_option maxRecDepth 100000 in
theorem ax_alarmRaised1 (ε : kEnv) (l : Launch) {A : Nat → Prop} {ad : Nat → Nat → Nat} {σ : kS} {H : Heap} {x1 x2 x3 x4 : Int32} (hw : kW ε A ad σ H) (hC : kX ε l yX4_alarmRaised wsX4_alarmRaised ({ frames := 7, cells := 1, slots := 6, locals := 120 }) [.ref (ad 0 0), .int x1] H "java/lang/IndexOutOfBoundsException") : kMi ε l yL_act wsL_act ({ frames := 11, cells := 1, slots := 6, locals := 310 }) [.ref (ad 0 0), .int 20, .int x1, .int x2, .int x3, .int x4] H kNo (1) (6) (fun r9 _ => r9 = -41) := by
  refine kofH (cc := cL_act) (maxL := 7) (ret := (some .int)) (hh := [(0, 368, 369, 83), (0, 368, 374, 85), (0, 368, 379, 87)]) (by decide) rfl (Nat.le_of_ble_eq_true rfl) ?_
  intro p e s m below meth c ls S hr hlocks hT hH hE hl
  have S : CallFix p m c cL_act 7 s _ wsL_act RL := S
  have hx := S.1
  have hb := S.2.1
  have hown : s.vm.findClass RL = some m.cls := S.2.2.2.1
  have hts := S.2.2.2.2
  have hK := hE.1
  have hS : va_S kNo s.heap H [] := by rw [hH]; exact va_S.rf
  have hAb : ∀ q, kNo q → kHi ε q := fun _ h => h.elim
  have hl : lv_has ls 7 [(0, .ref (ad 0 0)), (1, .int 20), (2, .int x1), (3, .int x2), (4, .int x3), (5, .int x4)] := hl
  refine lv_iload_n hx hb dL_act_0 rfl (lv_at hl 1 rfl) ?_
  refine lv_if_ne (tgt := 12) hx hb dL_act_1 (by decide) (fun _ => ?_) (fun hc => absurd hc (by decide))
  refine lv_iload_n hx hb dL_act_12 rfl (lv_at hl 1 rfl) ?_
  refine lv_iconst (v := 1) hx hb dL_act_13 (by decide) ?_
  refine lv_icmp_ne (tgt := 30) hx hb dL_act_14 (by decide) (fun _ => ?_) (fun hc => absurd hc (by decide))
  refine lv_iload_n hx hb dL_act_30 rfl (lv_at hl 1 rfl) ?_
  refine lv_iconst (v := 2) hx hb dL_act_31 (by decide) ?_
  refine lv_icmp_ne (tgt := 63) hx hb dL_act_32 (by decide) (fun _ => ?_) (fun hc => absurd hc (by decide))
  refine lv_iload_n hx hb dL_act_63 rfl (lv_at hl 1 rfl) ?_
  refine lv_iconst (v := 3) hx hb dL_act_64 (by decide) ?_
  refine lv_icmp_ne (tgt := 94) hx hb dL_act_65 (by decide) (fun _ => ?_) (fun hc => absurd hc (by decide))
  refine lv_iload_n hx hb dL_act_94 rfl (lv_at hl 1 rfl) ?_
  refine lv_iconst (v := 4) hx hb dL_act_95 (by decide) ?_
  refine lv_icmp_ne (tgt := 108) hx hb dL_act_96 (by decide) (fun _ => ?_) (fun hc => absurd hc (by decide))
  refine lv_iload_n hx hb dL_act_108 rfl (lv_at hl 1 rfl) ?_
  refine lv_iconst (v := 5) hx hb dL_act_109 (by decide) ?_
  refine lv_icmp_ne (tgt := 124) hx hb dL_act_110 (by decide) (fun _ => ?_) (fun hc => absurd hc (by decide))
  refine lv_iload_n hx hb dL_act_124 rfl (lv_at hl 1 rfl) ?_
  refine lv_bipush (v := 6) hx hb dL_act_125 (by decide) ?_
  refine lv_icmp_ne (tgt := 138) hx hb dL_act_127 (by decide) (fun _ => ?_) (fun hc => absurd hc (by decide))
  refine lv_iload_n hx hb dL_act_138 rfl (lv_at hl 1 rfl) ?_
  refine lv_bipush (v := 7) hx hb dL_act_139 (by decide) ?_
  refine lv_icmp_ne (tgt := 152) hx hb dL_act_141 (by decide) (fun _ => ?_) (fun hc => absurd hc (by decide))
  refine lv_iload_n hx hb dL_act_152 rfl (lv_at hl 1 rfl) ?_
  refine lv_bipush (v := 8) hx hb dL_act_153 (by decide) ?_
  refine lv_icmp_ne (tgt := 166) hx hb dL_act_155 (by decide) (fun _ => ?_) (fun hc => absurd hc (by decide))
  refine lv_iload_n hx hb dL_act_166 rfl (lv_at hl 1 rfl) ?_
  refine lv_bipush (v := 9) hx hb dL_act_167 (by decide) ?_
  refine lv_icmp_ne (tgt := 180) hx hb dL_act_169 (by decide) (fun _ => ?_) (fun hc => absurd hc (by decide))
  refine lv_iload_n hx hb dL_act_180 rfl (lv_at hl 1 rfl) ?_
  refine lv_bipush (v := 10) hx hb dL_act_181 (by decide) ?_
  refine lv_icmp_ne (tgt := 194) hx hb dL_act_183 (by decide) (fun _ => ?_) (fun hc => absurd hc (by decide))
  refine lv_iload_n hx hb dL_act_194 rfl (lv_at hl 1 rfl) ?_
  refine lv_bipush (v := 11) hx hb dL_act_195 (by decide) ?_
  refine lv_icmp_ne (tgt := 216) hx hb dL_act_197 (by decide) (fun _ => ?_) (fun hc => absurd hc (by decide))
  refine lv_iload_n hx hb dL_act_216 rfl (lv_at hl 1 rfl) ?_
  refine lv_bipush (v := 12) hx hb dL_act_217 (by decide) ?_
  refine lv_icmp_ne (tgt := 240) hx hb dL_act_219 (by decide) (fun _ => ?_) (fun hc => absurd hc (by decide))
  refine lv_iload_n hx hb dL_act_240 rfl (lv_at hl 1 rfl) ?_
  refine lv_bipush (v := 13) hx hb dL_act_241 (by decide) ?_
  refine lv_icmp_ne (tgt := 254) hx hb dL_act_243 (by decide) (fun _ => ?_) (fun hc => absurd hc (by decide))
  refine lv_iload_n hx hb dL_act_254 rfl (lv_at hl 1 rfl) ?_
  refine lv_bipush (v := 14) hx hb dL_act_255 (by decide) ?_
  refine lv_icmp_ne (tgt := 268) hx hb dL_act_257 (by decide) (fun _ => ?_) (fun hc => absurd hc (by decide))
  refine lv_iload_n hx hb dL_act_268 rfl (lv_at hl 1 rfl) ?_
  refine lv_bipush (v := 15) hx hb dL_act_269 (by decide) ?_
  refine lv_icmp_ne (tgt := 290) hx hb dL_act_271 (by decide) (fun _ => ?_) (fun hc => absurd hc (by decide))
  refine lv_iload_n hx hb dL_act_290 rfl (lv_at hl 1 rfl) ?_
  refine lv_bipush (v := 16) hx hb dL_act_291 (by decide) ?_
  refine lv_icmp_ne (tgt := 305) hx hb dL_act_293 (by decide) (fun _ => ?_) (fun hc => absurd hc (by decide))
  refine lv_iload_n hx hb dL_act_305 rfl (lv_at hl 1 rfl) ?_
  refine lv_bipush (v := 17) hx hb dL_act_306 (by decide) ?_
  refine lv_icmp_ne (tgt := 320) hx hb dL_act_308 (by decide) (fun _ => ?_) (fun hc => absurd hc (by decide))
  refine lv_iload_n hx hb dL_act_320 rfl (lv_at hl 1 rfl) ?_
  refine lv_bipush (v := 18) hx hb dL_act_321 (by decide) ?_
  refine lv_icmp_ne (tgt := 335) hx hb dL_act_323 (by decide) (fun _ => ?_) (fun hc => absurd hc (by decide))
  refine lv_iload_n hx hb dL_act_335 rfl (lv_at hl 1 rfl) ?_
  refine lv_bipush (v := 19) hx hb dL_act_336 (by decide) ?_
  refine lv_icmp_ne (tgt := 349) hx hb dL_act_338 (by decide) (fun _ => ?_) (fun hc => absurd hc (by decide))
  refine lv_iload_n hx hb dL_act_349 rfl (lv_at hl 1 rfl) ?_
  refine lv_bipush (v := 20) hx hb dL_act_350 (by decide) ?_
  refine lv_icmp_ne (tgt := 363) hx hb dL_act_352 (by decide) (fun hc => absurd (by decide) hc) (fun _ => ?_)
  refine lv_aload_n hx hb dL_act_355 rfl (lv_at hl 0 rfl) ?_
  refine lv_iload_n hx hb dL_act_356 rfl (lv_at hl 2 rfl) ?_
  refine kgo_x (kx_V (As := [.int x1]) (rest := []) S hE hS hAb hC (cwV 1 hts gL_act_X4_alarmRaised rfl rfl rfl (by decide +kernel) ⟨Nat.le_of_ble_eq_true rfl, Nat.le_of_ble_eq_true rfl⟩) (hw.lv 0 0 (rfl : (0 : Nat) = 0)) rfl rfl hl.1 rfl (Nat.le_of_ble_eq_true rfl) dL_act_357 ⟨Nat.le_refl _, Nat.le_refl _⟩) hS (fun ce q9 H1 locs h1 h2 hS h4 h5 h6 => ?_)
  refine kcatch (E := "java/lang/IndexOutOfBoundsException") [] (0, 368, 369, 83) [(0, 368, 374, 85), (0, 368, 379, 87)] hE hown hT rfl (by decide) (by decide) (fun z hz => by simp at hz) (hts (.classLink RL 83 "java/lang/IndexOutOfBoundsException") (by decide +kernel)) (by decide +kernel) h4 h5 h6 ?_
  refine lv_astore (lv' := [(6, .ref q9), (0, .ref (ad 0 0)), (1, .int 20), (2, .int x1), (3, .int x2), (4, .int x3), (5, .int x4)]) hx hb dL_act_369 hl (by decide) rfl (fun ls hl => ?_)
  refine lv_bipush (v := -41) hx hb dL_act_371 (by decide) ?_
  refine kend_i S hr hlocks hS rfl dL_act_373
set_option maxHeartbeats 4000000 in
set_option maxRecDepth 100000 in
theorem ax_alarmClosed1 (ε : kEnv) (l : Launch) {A : Nat → Prop} {ad : Nat → Nat → Nat} {σ : kS} {H : Heap} {x1 x2 x3 x4 : Int32} (hw : kW ε A ad σ H) (hC : kX ε l yX4_alarmClosed wsX4_alarmClosed ({ frames := 7, cells := 1, slots := 6, locals := 120 }) [.ref (ad 0 0), .int x1] H "java/lang/IndexOutOfBoundsException") : kMi ε l yL_act wsL_act ({ frames := 11, cells := 1, slots := 6, locals := 310 }) [.ref (ad 0 0), .int 21, .int x1, .int x2, .int x3, .int x4] H kNo (1) (6) (fun r9 _ => r9 = -41) := by
  refine kofH (cc := cL_act) (maxL := 7) (ret := (some .int)) (hh := [(0, 368, 369, 83), (0, 368, 374, 85), (0, 368, 379, 87)]) (by decide) rfl (Nat.le_of_ble_eq_true rfl) ?_
  intro p e s m below meth c ls S hr hlocks hT hH hE hl
  have S : CallFix p m c cL_act 7 s _ wsL_act RL := S
  have hx := S.1
  have hb := S.2.1
  have hown : s.vm.findClass RL = some m.cls := S.2.2.2.1
  have hts := S.2.2.2.2
  have hK := hE.1
  have hS : va_S kNo s.heap H [] := by rw [hH]; exact va_S.rf
  have hAb : ∀ q, kNo q → kHi ε q := fun _ h => h.elim
  have hl : lv_has ls 7 [(0, .ref (ad 0 0)), (1, .int 21), (2, .int x1), (3, .int x2), (4, .int x3), (5, .int x4)] := hl
  refine lv_iload_n hx hb dL_act_0 rfl (lv_at hl 1 rfl) ?_
  refine lv_if_ne (tgt := 12) hx hb dL_act_1 (by decide) (fun _ => ?_) (fun hc => absurd hc (by decide))
  refine lv_iload_n hx hb dL_act_12 rfl (lv_at hl 1 rfl) ?_
  refine lv_iconst (v := 1) hx hb dL_act_13 (by decide) ?_
  refine lv_icmp_ne (tgt := 30) hx hb dL_act_14 (by decide) (fun _ => ?_) (fun hc => absurd hc (by decide))
  refine lv_iload_n hx hb dL_act_30 rfl (lv_at hl 1 rfl) ?_
  refine lv_iconst (v := 2) hx hb dL_act_31 (by decide) ?_
  refine lv_icmp_ne (tgt := 63) hx hb dL_act_32 (by decide) (fun _ => ?_) (fun hc => absurd hc (by decide))
  refine lv_iload_n hx hb dL_act_63 rfl (lv_at hl 1 rfl) ?_
  refine lv_iconst (v := 3) hx hb dL_act_64 (by decide) ?_
  refine lv_icmp_ne (tgt := 94) hx hb dL_act_65 (by decide) (fun _ => ?_) (fun hc => absurd hc (by decide))
  refine lv_iload_n hx hb dL_act_94 rfl (lv_at hl 1 rfl) ?_
  refine lv_iconst (v := 4) hx hb dL_act_95 (by decide) ?_
  refine lv_icmp_ne (tgt := 108) hx hb dL_act_96 (by decide) (fun _ => ?_) (fun hc => absurd hc (by decide))
  refine lv_iload_n hx hb dL_act_108 rfl (lv_at hl 1 rfl) ?_
  refine lv_iconst (v := 5) hx hb dL_act_109 (by decide) ?_
  refine lv_icmp_ne (tgt := 124) hx hb dL_act_110 (by decide) (fun _ => ?_) (fun hc => absurd hc (by decide))
  refine lv_iload_n hx hb dL_act_124 rfl (lv_at hl 1 rfl) ?_
  refine lv_bipush (v := 6) hx hb dL_act_125 (by decide) ?_
  refine lv_icmp_ne (tgt := 138) hx hb dL_act_127 (by decide) (fun _ => ?_) (fun hc => absurd hc (by decide))
  refine lv_iload_n hx hb dL_act_138 rfl (lv_at hl 1 rfl) ?_
  refine lv_bipush (v := 7) hx hb dL_act_139 (by decide) ?_
  refine lv_icmp_ne (tgt := 152) hx hb dL_act_141 (by decide) (fun _ => ?_) (fun hc => absurd hc (by decide))
  refine lv_iload_n hx hb dL_act_152 rfl (lv_at hl 1 rfl) ?_
  refine lv_bipush (v := 8) hx hb dL_act_153 (by decide) ?_
  refine lv_icmp_ne (tgt := 166) hx hb dL_act_155 (by decide) (fun _ => ?_) (fun hc => absurd hc (by decide))
  refine lv_iload_n hx hb dL_act_166 rfl (lv_at hl 1 rfl) ?_
  refine lv_bipush (v := 9) hx hb dL_act_167 (by decide) ?_
  refine lv_icmp_ne (tgt := 180) hx hb dL_act_169 (by decide) (fun _ => ?_) (fun hc => absurd hc (by decide))
  refine lv_iload_n hx hb dL_act_180 rfl (lv_at hl 1 rfl) ?_
  refine lv_bipush (v := 10) hx hb dL_act_181 (by decide) ?_
  refine lv_icmp_ne (tgt := 194) hx hb dL_act_183 (by decide) (fun _ => ?_) (fun hc => absurd hc (by decide))
  refine lv_iload_n hx hb dL_act_194 rfl (lv_at hl 1 rfl) ?_
  refine lv_bipush (v := 11) hx hb dL_act_195 (by decide) ?_
  refine lv_icmp_ne (tgt := 216) hx hb dL_act_197 (by decide) (fun _ => ?_) (fun hc => absurd hc (by decide))
  refine lv_iload_n hx hb dL_act_216 rfl (lv_at hl 1 rfl) ?_
  refine lv_bipush (v := 12) hx hb dL_act_217 (by decide) ?_
  refine lv_icmp_ne (tgt := 240) hx hb dL_act_219 (by decide) (fun _ => ?_) (fun hc => absurd hc (by decide))
  refine lv_iload_n hx hb dL_act_240 rfl (lv_at hl 1 rfl) ?_
  refine lv_bipush (v := 13) hx hb dL_act_241 (by decide) ?_
  refine lv_icmp_ne (tgt := 254) hx hb dL_act_243 (by decide) (fun _ => ?_) (fun hc => absurd hc (by decide))
  refine lv_iload_n hx hb dL_act_254 rfl (lv_at hl 1 rfl) ?_
  refine lv_bipush (v := 14) hx hb dL_act_255 (by decide) ?_
  refine lv_icmp_ne (tgt := 268) hx hb dL_act_257 (by decide) (fun _ => ?_) (fun hc => absurd hc (by decide))
  refine lv_iload_n hx hb dL_act_268 rfl (lv_at hl 1 rfl) ?_
  refine lv_bipush (v := 15) hx hb dL_act_269 (by decide) ?_
  refine lv_icmp_ne (tgt := 290) hx hb dL_act_271 (by decide) (fun _ => ?_) (fun hc => absurd hc (by decide))
  refine lv_iload_n hx hb dL_act_290 rfl (lv_at hl 1 rfl) ?_
  refine lv_bipush (v := 16) hx hb dL_act_291 (by decide) ?_
  refine lv_icmp_ne (tgt := 305) hx hb dL_act_293 (by decide) (fun _ => ?_) (fun hc => absurd hc (by decide))
  refine lv_iload_n hx hb dL_act_305 rfl (lv_at hl 1 rfl) ?_
  refine lv_bipush (v := 17) hx hb dL_act_306 (by decide) ?_
  refine lv_icmp_ne (tgt := 320) hx hb dL_act_308 (by decide) (fun _ => ?_) (fun hc => absurd hc (by decide))
  refine lv_iload_n hx hb dL_act_320 rfl (lv_at hl 1 rfl) ?_
  refine lv_bipush (v := 18) hx hb dL_act_321 (by decide) ?_
  refine lv_icmp_ne (tgt := 335) hx hb dL_act_323 (by decide) (fun _ => ?_) (fun hc => absurd hc (by decide))
  refine lv_iload_n hx hb dL_act_335 rfl (lv_at hl 1 rfl) ?_
  refine lv_bipush (v := 19) hx hb dL_act_336 (by decide) ?_
  refine lv_icmp_ne (tgt := 349) hx hb dL_act_338 (by decide) (fun _ => ?_) (fun hc => absurd hc (by decide))
  refine lv_iload_n hx hb dL_act_349 rfl (lv_at hl 1 rfl) ?_
  refine lv_bipush (v := 20) hx hb dL_act_350 (by decide) ?_
  refine lv_icmp_ne (tgt := 363) hx hb dL_act_352 (by decide) (fun _ => ?_) (fun hc => absurd hc (by decide))
  refine lv_aload_n hx hb dL_act_363 rfl (lv_at hl 0 rfl) ?_
  refine lv_iload_n hx hb dL_act_364 rfl (lv_at hl 2 rfl) ?_
  refine kgo_x (kx_V (As := [.int x1]) (rest := []) S hE hS hAb hC (cwV 1 hts gL_act_X4_alarmClosed rfl rfl rfl (by decide +kernel) ⟨Nat.le_of_ble_eq_true rfl, Nat.le_of_ble_eq_true rfl⟩) (hw.lv 0 0 (rfl : (0 : Nat) = 0)) rfl rfl hl.1 rfl (Nat.le_of_ble_eq_true rfl) dL_act_365 ⟨Nat.le_refl _, Nat.le_refl _⟩) hS (fun ce q9 H1 locs h1 h2 hS h4 h5 h6 => ?_)
  refine kcatch (E := "java/lang/IndexOutOfBoundsException") [] (0, 368, 369, 83) [(0, 368, 374, 85), (0, 368, 379, 87)] hE hown hT rfl (by decide) (by decide) (fun z hz => by simp at hz) (hts (.classLink RL 83 "java/lang/IndexOutOfBoundsException") (by decide +kernel)) (by decide +kernel) h4 h5 h6 ?_
  refine lv_astore (lv' := [(6, .ref q9), (0, .ref (ad 0 0)), (1, .int 21), (2, .int x1), (3, .int x2), (4, .int x3), (5, .int x4)]) hx hb dL_act_369 hl (by decide) rfl (fun ls hl => ?_)
  refine lv_bipush (v := -41) hx hb dL_act_371 (by decide) ?_
  refine kend_i S hr hlocks hS rfl dL_act_373
set_option maxHeartbeats 4000000 in
set_option maxRecDepth 100000 in
theorem ay_addRegion (ε : kEnv) (l : Launch) {A : Nat → Prop} {ad : Nat → Nat → Nat} {σ : kS} {H : Heap} {x1 x2 x3 x4 : Int32} {mc ms : Nat} {post : Int32 → Heap → Prop} (hw : kW ε A ad σ H) (hAb : ∀ q, A q → kHi ε q) (hC : kMi ε l yX4_addRegion wsX4_addRegion ({ frames := 7, cells := mc, slots := ms, locals := 220 }) [.ref (ad 0 0), .int x1] H A mc ms post) : kMi ε l yL_act wsL_act ({ frames := 11, cells := mc, slots := ms, locals := 310 }) [.ref (ad 0 0), .int 0, .int x1, .int x2, .int x3, .int x4] H A (mc) (ms) (post) := by
  refine kofH (cc := cL_act) (maxL := 7) (ret := (some .int)) (hh := [(0, 368, 369, 83), (0, 368, 374, 85), (0, 368, 379, 87)]) (by decide) rfl (Nat.le_of_ble_eq_true rfl) ?_
  intro p e s m below meth c ls S hr hlocks hT hH hE hl
  have S : CallFix p m c cL_act 7 s _ wsL_act RL := S
  have hx := S.1
  have hb := S.2.1
  have hown : s.vm.findClass RL = some m.cls := S.2.2.2.1
  have hts := S.2.2.2.2
  have hK := hE.1
  have hS : va_S A s.heap H [] := by rw [hH]; exact va_S.rf
  have hl : lv_has ls 7 [(0, .ref (ad 0 0)), (1, .int 0), (2, .int x1), (3, .int x2), (4, .int x3), (5, .int x4)] := hl
  refine lv_iload_n hx hb dL_act_0 rfl (lv_at hl 1 rfl) ?_
  refine lv_if_ne (tgt := 12) hx hb dL_act_1 (by decide) (fun hc => absurd (by decide) hc) (fun _ => ?_)
  refine lv_aload_n hx hb dL_act_4 rfl (lv_at hl 0 rfl) ?_
  refine lv_iload_n hx hb dL_act_5 rfl (lv_at hl 2 rfl) ?_
  refine kgo_i (kc_V (As := [.int x1]) (rest := []) S hE hS hAb (hC) (cwV 1 hts gL_act_X4_addRegion rfl rfl rfl (by decide +kernel) ⟨Nat.le_of_ble_eq_true rfl, Nat.le_of_ble_eq_true rfl⟩) (hw.lv 0 0 (rfl : (0 : Nat) = 0)) rfl rfl hl.1 rfl (Nat.le_of_ble_eq_true rfl) dL_act_6 ⟨Nat.le_of_eq (Nat.zero_add mc), Nat.le_of_eq (Nat.zero_add ms)⟩) hS (fun _ h => h) (fun r9 H1 locs hp hz hq hS => ?_)
  refine kr_room (c1 := mc) (s1 := ms) (Nat.zero_add mc) (Nat.zero_add ms) ?_
  refine lv_goto (tgt := 368) hx hb dL_act_9 (by decide) ?_
  refine kend_i S hr hlocks hS hp dL_act_368
set_option maxHeartbeats 4000000 in
set_option maxRecDepth 100000 in
theorem ay_addCheck (ε : kEnv) (l : Launch) {A : Nat → Prop} {ad : Nat → Nat → Nat} {σ : kS} {H : Heap} {x1 x2 x3 x4 : Int32} {mc ms : Nat} {post : Int32 → Heap → Prop} (hw : kW ε A ad σ H) (hAb : ∀ q, A q → kHi ε q) (hC : kMi ε l yX4_addCheck wsX4_addCheck ({ frames := 7, cells := mc, slots := ms, locals := 220 }) [.ref (ad 0 0), .int x1, .int x2, .int x3, .int x4] H A mc ms post) : kMi ε l yL_act wsL_act ({ frames := 11, cells := mc, slots := ms, locals := 310 }) [.ref (ad 0 0), .int 1, .int x1, .int x2, .int x3, .int x4] H A (mc) (ms) (post) := by
  refine kofH (cc := cL_act) (maxL := 7) (ret := (some .int)) (hh := [(0, 368, 369, 83), (0, 368, 374, 85), (0, 368, 379, 87)]) (by decide) rfl (Nat.le_of_ble_eq_true rfl) ?_
  intro p e s m below meth c ls S hr hlocks hT hH hE hl
  have S : CallFix p m c cL_act 7 s _ wsL_act RL := S
  have hx := S.1
  have hb := S.2.1
  have hown : s.vm.findClass RL = some m.cls := S.2.2.2.1
  have hts := S.2.2.2.2
  have hK := hE.1
  have hS : va_S A s.heap H [] := by rw [hH]; exact va_S.rf
  have hl : lv_has ls 7 [(0, .ref (ad 0 0)), (1, .int 1), (2, .int x1), (3, .int x2), (4, .int x3), (5, .int x4)] := hl
  refine lv_iload_n hx hb dL_act_0 rfl (lv_at hl 1 rfl) ?_
  refine lv_if_ne (tgt := 12) hx hb dL_act_1 (by decide) (fun _ => ?_) (fun hc => absurd hc (by decide))
  refine lv_iload_n hx hb dL_act_12 rfl (lv_at hl 1 rfl) ?_
  refine lv_iconst (v := 1) hx hb dL_act_13 (by decide) ?_
  refine lv_icmp_ne (tgt := 30) hx hb dL_act_14 (by decide) (fun hc => absurd (by decide) hc) (fun _ => ?_)
  refine lv_aload_n hx hb dL_act_17 rfl (lv_at hl 0 rfl) ?_
  refine lv_iload_n hx hb dL_act_18 rfl (lv_at hl 2 rfl) ?_
  refine lv_iload_n hx hb dL_act_19 rfl (lv_at hl 3 rfl) ?_
  refine lv_iload hx hb dL_act_20 (lv_at hl 4 rfl) ?_
  refine lv_iload hx hb dL_act_22 (lv_at hl 5 rfl) ?_
  refine kgo_i (kc_V (As := [.int x1, .int x2, .int x3, .int x4]) (rest := []) S hE hS hAb (hC) (cwV 4 hts gL_act_X4_addCheck rfl rfl rfl (by decide +kernel) ⟨Nat.le_of_ble_eq_true rfl, Nat.le_of_ble_eq_true rfl⟩) (hw.lv 0 0 (rfl : (0 : Nat) = 0)) rfl rfl hl.1 rfl (Nat.le_of_ble_eq_true rfl) dL_act_24 ⟨Nat.le_of_eq (Nat.zero_add mc), Nat.le_of_eq (Nat.zero_add ms)⟩) hS (fun _ h => h) (fun r9 H1 locs hp hz hq hS => ?_)
  refine kr_room (c1 := mc) (s1 := ms) (Nat.zero_add mc) (Nat.zero_add ms) ?_
  refine lv_goto (tgt := 368) hx hb dL_act_27 (by decide) ?_
  refine kend_i S hr hlocks hS hp dL_act_368
set_option maxHeartbeats 4000000 in
set_option maxRecDepth 100000 in
theorem ay_addWindow (ε : kEnv) (l : Launch) {A : Nat → Prop} {ad : Nat → Nat → Nat} {σ : kS} {H : Heap} {x1 x2 x3 x4 : Int32} {mc ms : Nat} {post : Int32 → Heap → Prop} (hw : kW ε A ad σ H) (hAb : ∀ q, A q → kHi ε q) (hC : kMi ε l yX4_addWindow wsX4_addWindow ({ frames := 7, cells := mc, slots := ms, locals := 220 }) [.ref (ad 0 0), .int x1, .int x2, .int x3] H A mc ms post) : kMi ε l yL_act wsL_act ({ frames := 11, cells := mc, slots := ms, locals := 310 }) [.ref (ad 0 0), .int 5, .int x1, .int x2, .int x3, .int x4] H A (mc) (ms) (post) := by
  refine kofH (cc := cL_act) (maxL := 7) (ret := (some .int)) (hh := [(0, 368, 369, 83), (0, 368, 374, 85), (0, 368, 379, 87)]) (by decide) rfl (Nat.le_of_ble_eq_true rfl) ?_
  intro p e s m below meth c ls S hr hlocks hT hH hE hl
  have S : CallFix p m c cL_act 7 s _ wsL_act RL := S
  have hx := S.1
  have hb := S.2.1
  have hown : s.vm.findClass RL = some m.cls := S.2.2.2.1
  have hts := S.2.2.2.2
  have hK := hE.1
  have hS : va_S A s.heap H [] := by rw [hH]; exact va_S.rf
  have hl : lv_has ls 7 [(0, .ref (ad 0 0)), (1, .int 5), (2, .int x1), (3, .int x2), (4, .int x3), (5, .int x4)] := hl
  refine lv_iload_n hx hb dL_act_0 rfl (lv_at hl 1 rfl) ?_
  refine lv_if_ne (tgt := 12) hx hb dL_act_1 (by decide) (fun _ => ?_) (fun hc => absurd hc (by decide))
  refine lv_iload_n hx hb dL_act_12 rfl (lv_at hl 1 rfl) ?_
  refine lv_iconst (v := 1) hx hb dL_act_13 (by decide) ?_
  refine lv_icmp_ne (tgt := 30) hx hb dL_act_14 (by decide) (fun _ => ?_) (fun hc => absurd hc (by decide))
  refine lv_iload_n hx hb dL_act_30 rfl (lv_at hl 1 rfl) ?_
  refine lv_iconst (v := 2) hx hb dL_act_31 (by decide) ?_
  refine lv_icmp_ne (tgt := 63) hx hb dL_act_32 (by decide) (fun _ => ?_) (fun hc => absurd hc (by decide))
  refine lv_iload_n hx hb dL_act_63 rfl (lv_at hl 1 rfl) ?_
  refine lv_iconst (v := 3) hx hb dL_act_64 (by decide) ?_
  refine lv_icmp_ne (tgt := 94) hx hb dL_act_65 (by decide) (fun _ => ?_) (fun hc => absurd hc (by decide))
  refine lv_iload_n hx hb dL_act_94 rfl (lv_at hl 1 rfl) ?_
  refine lv_iconst (v := 4) hx hb dL_act_95 (by decide) ?_
  refine lv_icmp_ne (tgt := 108) hx hb dL_act_96 (by decide) (fun _ => ?_) (fun hc => absurd hc (by decide))
  refine lv_iload_n hx hb dL_act_108 rfl (lv_at hl 1 rfl) ?_
  refine lv_iconst (v := 5) hx hb dL_act_109 (by decide) ?_
  refine lv_icmp_ne (tgt := 124) hx hb dL_act_110 (by decide) (fun hc => absurd (by decide) hc) (fun _ => ?_)
  refine lv_aload_n hx hb dL_act_113 rfl (lv_at hl 0 rfl) ?_
  refine lv_iload_n hx hb dL_act_114 rfl (lv_at hl 2 rfl) ?_
  refine lv_iload_n hx hb dL_act_115 rfl (lv_at hl 3 rfl) ?_
  refine lv_iload hx hb dL_act_116 (lv_at hl 4 rfl) ?_
  refine kgo_i (kc_V (As := [.int x1, .int x2, .int x3]) (rest := []) S hE hS hAb (hC) (cwV 3 hts gL_act_X4_addWindow rfl rfl rfl (by decide +kernel) ⟨Nat.le_of_ble_eq_true rfl, Nat.le_of_ble_eq_true rfl⟩) (hw.lv 0 0 (rfl : (0 : Nat) = 0)) rfl rfl hl.1 rfl (Nat.le_of_ble_eq_true rfl) dL_act_118 ⟨Nat.le_of_eq (Nat.zero_add mc), Nat.le_of_eq (Nat.zero_add ms)⟩) hS (fun _ h => h) (fun r9 H1 locs hp hz hq hS => ?_)
  refine kr_room (c1 := mc) (s1 := ms) (Nat.zero_add mc) (Nat.zero_add ms) ?_
  refine lv_goto (tgt := 368) hx hb dL_act_121 (by decide) ?_
  refine kend_i S hr hlocks hS hp dL_act_368
set_option maxHeartbeats 4000000 in
set_option maxRecDepth 100000 in
theorem ay_pass (ε : kEnv) (l : Launch) {A : Nat → Prop} {ad : Nat → Nat → Nat} {σ : kS} {H : Heap} {x1 x2 x3 x4 : Int32} {mc ms : Nat} {post : Int32 → Heap → Prop} (hw : kW ε A ad σ H) (hAb : ∀ q, A q → kHi ε q) (hC : kMi ε l yX4_pass wsX4_pass ({ frames := 10, cells := mc, slots := ms, locals := 270 }) [.ref (ad 0 0), .int x1] H A mc ms post) : kMi ε l yL_act wsL_act ({ frames := 11, cells := mc, slots := ms, locals := 310 }) [.ref (ad 0 0), .int 7, .int x1, .int x2, .int x3, .int x4] H A (mc) (ms) (post) := by
  refine kofH (cc := cL_act) (maxL := 7) (ret := (some .int)) (hh := [(0, 368, 369, 83), (0, 368, 374, 85), (0, 368, 379, 87)]) (by decide) rfl (Nat.le_of_ble_eq_true rfl) ?_
  intro p e s m below meth c ls S hr hlocks hT hH hE hl
  have S : CallFix p m c cL_act 7 s _ wsL_act RL := S
  have hx := S.1
  have hb := S.2.1
  have hown : s.vm.findClass RL = some m.cls := S.2.2.2.1
  have hts := S.2.2.2.2
  have hK := hE.1
  have hS : va_S A s.heap H [] := by rw [hH]; exact va_S.rf
  have hl : lv_has ls 7 [(0, .ref (ad 0 0)), (1, .int 7), (2, .int x1), (3, .int x2), (4, .int x3), (5, .int x4)] := hl
  refine lv_iload_n hx hb dL_act_0 rfl (lv_at hl 1 rfl) ?_
  refine lv_if_ne (tgt := 12) hx hb dL_act_1 (by decide) (fun _ => ?_) (fun hc => absurd hc (by decide))
  refine lv_iload_n hx hb dL_act_12 rfl (lv_at hl 1 rfl) ?_
  refine lv_iconst (v := 1) hx hb dL_act_13 (by decide) ?_
  refine lv_icmp_ne (tgt := 30) hx hb dL_act_14 (by decide) (fun _ => ?_) (fun hc => absurd hc (by decide))
  refine lv_iload_n hx hb dL_act_30 rfl (lv_at hl 1 rfl) ?_
  refine lv_iconst (v := 2) hx hb dL_act_31 (by decide) ?_
  refine lv_icmp_ne (tgt := 63) hx hb dL_act_32 (by decide) (fun _ => ?_) (fun hc => absurd hc (by decide))
  refine lv_iload_n hx hb dL_act_63 rfl (lv_at hl 1 rfl) ?_
  refine lv_iconst (v := 3) hx hb dL_act_64 (by decide) ?_
  refine lv_icmp_ne (tgt := 94) hx hb dL_act_65 (by decide) (fun _ => ?_) (fun hc => absurd hc (by decide))
  refine lv_iload_n hx hb dL_act_94 rfl (lv_at hl 1 rfl) ?_
  refine lv_iconst (v := 4) hx hb dL_act_95 (by decide) ?_
  refine lv_icmp_ne (tgt := 108) hx hb dL_act_96 (by decide) (fun _ => ?_) (fun hc => absurd hc (by decide))
  refine lv_iload_n hx hb dL_act_108 rfl (lv_at hl 1 rfl) ?_
  refine lv_iconst (v := 5) hx hb dL_act_109 (by decide) ?_
  refine lv_icmp_ne (tgt := 124) hx hb dL_act_110 (by decide) (fun _ => ?_) (fun hc => absurd hc (by decide))
  refine lv_iload_n hx hb dL_act_124 rfl (lv_at hl 1 rfl) ?_
  refine lv_bipush (v := 6) hx hb dL_act_125 (by decide) ?_
  refine lv_icmp_ne (tgt := 138) hx hb dL_act_127 (by decide) (fun _ => ?_) (fun hc => absurd hc (by decide))
  refine lv_iload_n hx hb dL_act_138 rfl (lv_at hl 1 rfl) ?_
  refine lv_bipush (v := 7) hx hb dL_act_139 (by decide) ?_
  refine lv_icmp_ne (tgt := 152) hx hb dL_act_141 (by decide) (fun hc => absurd (by decide) hc) (fun _ => ?_)
  refine lv_aload_n hx hb dL_act_144 rfl (lv_at hl 0 rfl) ?_
  refine lv_iload_n hx hb dL_act_145 rfl (lv_at hl 2 rfl) ?_
  refine kgo_i (kc_V (As := [.int x1]) (rest := []) S hE hS hAb (hC) (cwV 1 hts gL_act_X4_pass rfl rfl rfl (by decide +kernel) ⟨Nat.le_of_ble_eq_true rfl, Nat.le_of_ble_eq_true rfl⟩) (hw.lv 0 0 (rfl : (0 : Nat) = 0)) rfl rfl hl.1 rfl (Nat.le_of_ble_eq_true rfl) dL_act_146 ⟨Nat.le_of_eq (Nat.zero_add mc), Nat.le_of_eq (Nat.zero_add ms)⟩) hS (fun _ h => h) (fun r9 H1 locs hp hz hq hS => ?_)
  refine kr_room (c1 := mc) (s1 := ms) (Nat.zero_add mc) (Nat.zero_add ms) ?_
  refine lv_goto (tgt := 368) hx hb dL_act_149 (by decide) ?_
  refine kend_i S hr hlocks hS hp dL_act_368
