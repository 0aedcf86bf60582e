/-! ===== the environment of the start ===== -/
set_option maxHeartbeats 4000000 in
set_option maxRecDepth 100000 in
theorem kenv_of {s : State} {args : Array Value} (hts : ∀ w ∈ lw_tbl, w.before args s = true) (hgv : (Jvm.Cond.and given_1 narrow_1).before args s = true) : ∃ ε : kEnv, ε.2.2.1 = s.heap.size ∧ kE ε s := by
  have hs := flat_of_before _ hgv
  have hA : ∀ a : Nat, a < s.heap.size → ¬ (fun q : Nat => s.heap.size ≤ q) a := fun a h => Nat.not_le.mpr h
  obtain ⟨c0, i0, k0⟩ := u_known (C := RJx4a65c) (T := TJx4a65c) (N := 3) (n := 3) hts inJx4a65c (hts (.instantiable RJx4a65c 3) (List.mem_of_getElem? (i := 50) (by decide +kernel)))
  obtain ⟨c1, i1, k1⟩ := u_known (C := RX0) (T := TX0) (N := 3) (n := 3) hts inX0 (hts (.instantiable RX0 3) (List.mem_of_getElem? (i := 513) (by decide +kernel)))
  obtain ⟨c2, i2, k2⟩ := u_known (C := RX1) (T := TX1) (N := 13) (n := 13) hts inX1 (hts (.instantiable RX1 13) (List.mem_of_getElem? (i := 322) (by decide +kernel)))
  obtain ⟨c3, i3, k3⟩ := u_known (C := RX2) (T := TX2) (N := 4) (n := 4) hts inX2 (hts (.instantiable RX2 4) (List.mem_of_getElem? (i := 218) (by decide +kernel)))
  obtain ⟨c4, i4, k4⟩ := u_known (C := RX3) (T := TX3) (N := 3) (n := 3) hts inX3 (hts (.instantiable RX3 3) (List.mem_of_getElem? (i := 401) (by decide +kernel)))
  obtain ⟨c5, i5, k5⟩ := u_known (C := RX4) (T := TX4) (N := 7) (n := 7) hts inX4 (hts (.instantiable RX4 7) (List.mem_of_getElem? (i := 42) (by decide +kernel)))
  obtain ⟨a0, b0, d0, u0, v0, w0⟩ := Cond.arrayClass_spec (hts (.arrayClass .int) (List.mem_of_getElem? (i := 372) (by decide +kernel)))
  have hov := hts (.arrayOver (.object "java/lang/Object")) (List.mem_of_getElem? (i := 287) (by decide +kernel))
  obtain ⟨d2, a2, b2, u2, -, v2, w2, x2⟩ := Cond.arrayOver_spec hov
  have kA : ∀ (cA : ClassId) (k : Class) (comp : ClassId) (ty : FieldType), s.vm.classes[cA]? = some k → k.kind = .array comp ty → ArrOfT s cA ty := fun cA k comp ty f2 f3 => fun N z => ⟨(fun _ h => by cases h), k, f2, comp, f3⟩
  obtain ⟨t, ht, hT⟩ := va_Tof (tm := .static "java/util/ArrayList" "DEFAULTCAPACITY_EMPTY_ELEMENTDATA" "[Ljava/lang/Object;") (ty := .object "java/lang/Object") (N := 0) (f := fun _ => .null) (A := fun q : Nat => s.heap.size ≤ q) (by decide) (hs (.arrayOf (.static "java/util/ArrayList" "DEFAULTCAPACITY_EMPTY_ELEMENTDATA" "[Ljava/lang/Object;") (.object "java/lang/Object")) (by decide +kernel)) (Cond.eq_int (hs (.eq (.length (.static "java/util/ArrayList" "DEFAULTCAPACITY_EMPTY_ELEMENTDATA" "[Ljava/lang/Object;")) (.int 0)) (by decide +kernel)) rfl) (fun j h => absurd h (Nat.not_lt_zero j)) hA
  have hZ := va_Zref (hts (.laysStatic "java/util/ArrayList" "DEFAULTCAPACITY_EMPTY_ELEMENTDATA" "[Ljava/lang/Object;") (List.mem_of_getElem? (i := 62) (by decide +kernel))) (hts (.initialized "java/util/ArrayList") (List.mem_of_getElem? (i := 23) (by decide +kernel))) ht hA
  have hU := vx_Zqof (hts (.laysStatic "java/lang/Throwable" "UNASSIGNED_STACK" "[Ljava/lang/StackTraceElement;") (List.mem_of_getElem? (i := 146) (by decide +kernel))) (hts (.initialized "java/lang/Throwable") (List.mem_of_getElem? (i := 24) (by decide +kernel))) (hs (.isRef (.static "java/lang/Throwable" "UNASSIGNED_STACK" "[Ljava/lang/StackTraceElement;")) (by decide +kernel)) hA
  have hV := vx_Zqof (hts (.laysStatic "java/lang/Throwable" "SUPPRESSED_SENTINEL" "Ljava/util/List;") (List.mem_of_getElem? (i := 148) (by decide +kernel))) (hts (.initialized "java/lang/Throwable") (List.mem_of_getElem? (i := 24) (by decide +kernel))) (hs (.isRef (.static "java/lang/Throwable" "SUPPRESSED_SENTINEL" "Ljava/util/List;")) (by decide +kernel)) hA
  obtain ⟨s0, _, _, _, x10, -⟩ := Cond.exactly_spec (hs (.exactly (.string "Probeweb" 45) "java/lang/String") (by decide +kernel))
  obtain ⟨s1, _, _, _, x11, -⟩ := Cond.exactly_spec (hs (.exactly (.string "Probeweb" 70) "java/lang/String") (by decide +kernel))
  obtain ⟨s2, _, _, _, x12, -⟩ := Cond.exactly_spec (hs (.exactly (.string "Probeweb" 95) "java/lang/String") (by decide +kernel))
  obtain ⟨s3, _, _, _, x13, -⟩ := Cond.exactly_spec (hs (.exactly (.string "Probeweb" 103) "java/lang/String") (by decide +kernel))
  obtain ⟨s4, _, _, _, x14, -⟩ := Cond.exactly_spec (hs (.exactly (.string "Probeweb" 164) "java/lang/String") (by decide +kernel))
  obtain ⟨s5, _, _, _, x15, -⟩ := Cond.exactly_spec (hs (.exactly (.string "Probeweb" 169) "java/lang/String") (by decide +kernel))
  obtain ⟨s6, _, _, _, x16, -⟩ := Cond.exactly_spec (hs (.exactly (.string "Probeweb" 171) "java/lang/String") (by decide +kernel))
  obtain ⟨s7, _, _, _, x17, -⟩ := Cond.exactly_spec (hs (.exactly (.string "Probeweb" 173) "java/lang/String") (by decide +kernel))
  obtain ⟨s8, _, _, _, x18, -⟩ := Cond.exactly_spec (hs (.exactly (.string "Probeweb" 177) "java/lang/String") (by decide +kernel))
  obtain ⟨mi, hmi⟩ := va_Mi.of (hs (.isRef (.mirror "[Ljava/lang/Object;")) (by decide +kernel))
  refine ⟨((fun k => match k with | 0 => c0 | 1 => c1 | 2 => c2 | 3 => c3 | 4 => c4 | _ => c5, fun k => match k with | 0 => i0 | 1 => i1 | 2 => i2 | 3 => i3 | 4 => i4 | _ => i5), (fun k => match k with | 0 => a0 | 1 => a0 | _ => a2), s.heap.size, t, fun k => match k with | 0 => s0 | 1 => s1 | 2 => s2 | 3 => s3 | 4 => s4 | 5 => s5 | 6 => s6 | 7 => s7 | 8 => s8 | _ => mi), rfl, ⟨fun k q hq => ?_, fun k q hq => ?_⟩, fun q hq => ?_, fun q hq => ?_, fun q hq => ?_, fun q hq => ?_, hU, hV, hZ, hT, fun k q hq => ?_, hmi, va_AO.of hov⟩
  · match k, hq with
    | 0, hq => cases hq; exact k0
    | 1, hq => cases hq; exact k1
    | 2, hq => cases hq; exact k2
    | 3, hq => cases hq; exact k3
    | 4, hq => cases hq; exact k4
    | 5, hq => cases hq; exact k5
    | k + 6, hq => simp at hq
  · match k, hq with
    | 0, hq => cases hq; exact ⟨kA _ _ _ _ v0 w0, u0⟩
    | 1, hq => cases hq; exact ⟨kA _ _ _ _ v0 w0, u0⟩
    | 2, hq => cases hq; exact ⟨kA _ _ _ _ v2 w2, ⟨b2, d2, v2, w2, u2, x2⟩⟩
    | k + 3, hq => simp at hq
  · have hm : ∀ q ∈ kNC, Cond.castable q.1 q.2 ∈ lw_tbl := by decide +kernel
    exact va_Nw.of rfl (hts _ (hm q hq))
  · have h6 := hq
    simp only [kNN, List.mem_cons, List.not_mem_nil, or_false] at h6
    rcases h6 with rfl | rfl | rfl | rfl | rfl | rfl
    · exact va_Nc.of (hs (.not (.castable "java/lang/IllegalArgumentException" "java/lang/IllegalStateException")) (by decide +kernel))
    · exact va_Nc.of (hs (.not (.castable "java/lang/IllegalArgumentException" "java/lang/IndexOutOfBoundsException")) (by decide +kernel))
    · exact va_Nc.of (hs (.not (.castable "java/lang/IllegalStateException" "java/lang/IllegalArgumentException")) (by decide +kernel))
    · exact va_Nc.of (hs (.not (.castable "java/lang/IllegalStateException" "java/lang/IndexOutOfBoundsException")) (by decide +kernel))
    · exact va_Nc.of (hs (.not (.castable "java/lang/IndexOutOfBoundsException" "java/lang/IllegalArgumentException")) (by decide +kernel))
    · exact va_Nc.of (hs (.not (.castable "java/lang/IndexOutOfBoundsException" "java/lang/IllegalStateException")) (by decide +kernel))
  · have hm : ∀ q ∈ kND, Cond.declares q ∈ lw_tbl := by decide +kernel
    exact va_Nw.of rfl (hts _ (hm q hq))
  · have hm : ∀ q ∈ kNM, Cond.methodLinkNest q.1 q.2.1 q.2.2.1 q.2.2.2 ∈ lw_tbl := by decide +kernel
    exact va_Nw.of rfl (hts _ (hm q hq))
  · match k, hq with
    | 0, hq =>
      have hq : some (45, "there are 6 regions") = some q := hq
      cases hq
      exact vk_R.of (hts (.stringRef RX4 45 "there are 6 regions") (List.mem_of_getElem? (i := 196) (by decide +kernel))) x10
    | 1, hq =>
      have hq : some (70, "there are 8 checks") = some q := hq
      cases hq
      exact vk_R.of (hts (.stringRef RX4 70 "there are 8 checks") (List.mem_of_getElem? (i := 320) (by decide +kernel))) x11
    | 2, hq =>
      have hq : some (95, "there have been 12 windows") = some q := hq
      cases hq
      exact vk_R.of (hts (.stringRef RX4 95 "there have been 12 windows") (List.mem_of_getElem? (i := 399) (by decide +kernel))) x12
    | 3, hq =>
      have hq : some (103, "no such window") = some q := hq
      cases hq
      exact vk_R.of (hts (.stringRef RX4 103 "no such window") (List.mem_of_getElem? (i := 421) (by decide +kernel))) x13
    | 4, hq =>
      have hq : some (164, "the check has not been counted yet") = some q := hq
      cases hq
      exact vk_R.of (hts (.stringRef RX4 164 "the check has not been counted yet") (List.mem_of_getElem? (i := 555) (by decide +kernel))) x14
    | 5, hq =>
      have hq : some (169, "no such region") = some q := hq
      cases hq
      exact vk_R.of (hts (.stringRef RX4 169 "no such region") (List.mem_of_getElem? (i := 160) (by decide +kernel))) x15
    | 6, hq =>
      have hq : some (171, "no such check") = some q := hq
      cases hq
      exact vk_R.of (hts (.stringRef RX4 171 "no such check") (List.mem_of_getElem? (i := 381) (by decide +kernel))) x16
    | 7, hq =>
      have hq : some (173, "no such alarm") = some q := hq
      cases hq
      exact vk_R.of (hts (.stringRef RX4 173 "no such alarm") (List.mem_of_getElem? (i := 589) (by decide +kernel))) x17
    | 8, hq =>
      have hq : some (177, "an argument is out of range") = some q := hq
      cases hq
      exact vk_R.of (hts (.stringRef RX4 177 "an argument is out of range") (List.mem_of_getElem? (i := 313) (by decide +kernel))) x18
    | k + 9, hq =>
      have hq : ([] : List (Nat × String))[k]? = some q := hq
      simp at hq
