set_option maxHeartbeats 4000000 in
set_option maxRecDepth 100000 in
theorem cpx_addRegion1 (ε : kEnv) (l : Launch) {A : Nat → Prop} {ad : Nat → Nat → Nat} {σ : kS} {H : Heap} {x : Int32} (hw : kW ε A ad σ H) (hB : kB σ) (hst : l.stackTraces = false) (hx1 : ¬ x = -1) (h : x < 0 ∨ nI (σ 1 0) ≤ x) : kX ε l yX4_addRegion wsX4_addRegion ({ frames := 7, cells := 1, slots := 6, locals := 120 }) [.ref (ad 0 0), .int x] H "java/lang/IndexOutOfBoundsException" := by
  refine kofX (cc := cX4_addRegion) (maxL := 4) (ret := (some .int)) (by decide) rfl (Nat.le_of_ble_eq_true rfl) ?_
  intro p e s m below meth c ls S hr hlocks hT hH hE hl
  have S : CallFix p m c cX4_addRegion 4 s _ wsX4_addRegion RX4 := S
  have hx := S.1
  have hb := S.2.1
  have hown : s.vm.findClass RX4 = some m.cls := S.2.2.2.1
  have hts := S.2.2.2.2
  have hK := hE.1
  have hS : va_S kNo s.heap H [] := by rw [hH]; exact va_S.rf
  have hAb : ∀ q, kNo q → kHi ε q := fun _ h => h.elim
  have hnR := hB.nR
  have hnC := hB.nC
  have hnW := hB.nW
  have hnA := hB.nA
  have hmn := hB.min
  have hl : lv_has ls 4 [(0, .ref (ad 0 0)), (1, .int x)] := hl
  refine lv_iload_n hx hb dX4_addRegion_0 rfl (lv_at hl 1 rfl) ?_
  refine lv_iconst (v := -1) hx hb dX4_addRegion_1 (by decide) ?_
  refine lv_icmp_eq (tgt := 10) hx hb dX4_addRegion_2 (by decide) (fun hc => absurd hc (hx1)) (fun _ => ?_)
  refine lv_aload_n hx hb dX4_addRegion_5 rfl (lv_at hl 0 rfl) ?_
  refine lv_iload_n hx hb dX4_addRegion_6 rfl (lv_at hl 1 rfl) ?_
  exact kthru hT hlocks hH (kx_V (As := [.int x]) (rest := []) S hE hS hAb (cx_requireRegion ε l hw hB hst h) (cwV 1 hts gX4_addRegion_X4_requireRegion rfl rfl rfl (by decide +kernel) ⟨Nat.le_of_ble_eq_true rfl, Nat.le_of_ble_eq_true rfl⟩) (hw.lv 0 0 (rfl : (0 : Nat) = 0)) rfl rfl hl.1 rfl (Nat.le_of_ble_eq_true rfl) dX4_addRegion_7 ⟨Nat.le_refl _, Nat.le_refl _⟩) hS
set_option maxHeartbeats 4000000 in
set_option maxRecDepth 100000 in
theorem cpx_addRegion2a (ε : kEnv) (l : Launch) {A : Nat → Prop} {ad : Nat → Nat → Nat} {σ : kS} {H : Heap} (hw : kW ε A ad σ H) (hB : kB σ) (hst : l.stackTraces = false) (h6 : 6 ≤ σ 1 0) : kX ε l yX4_addRegion wsX4_addRegion ({ frames := 7, cells := 1, slots := 6, locals := 120 }) [.ref (ad 0 0), .int ((-1))] H "java/lang/IllegalStateException" := by
  refine kofX (cc := cX4_addRegion) (maxL := 4) (ret := (some .int)) (by decide) rfl (Nat.le_of_ble_eq_true rfl) ?_
  intro p e s m below meth c ls S hr hlocks hT hH hE hl
  have S : CallFix p m c cX4_addRegion 4 s _ wsX4_addRegion RX4 := S
  have hx := S.1
  have hb := S.2.1
  have hown : s.vm.findClass RX4 = some m.cls := S.2.2.2.1
  have hts := S.2.2.2.2
  have hK := hE.1
  have hS : va_S kNo s.heap H [] := by rw [hH]; exact va_S.rf
  have hAb : ∀ q, kNo q → kHi ε q := fun _ h => h.elim
  have hnR := hB.nR
  have hnC := hB.nC
  have hnW := hB.nW
  have hnA := hB.nA
  have hmn := hB.min
  have hl : lv_has ls 4 [(0, .ref (ad 0 0)), (1, .int ((-1)))] := hl
  refine lv_iload_n hx hb dX4_addRegion_0 rfl (lv_at hl 1 rfl) ?_
  refine lv_iconst (v := -1) hx hb dX4_addRegion_1 (by decide) ?_
  refine lv_icmp_eq (tgt := 10) hx hb dX4_addRegion_2 (by decide) (fun _ => ?_) (fun hc => absurd (rfl) hc)
  refine lv_aload_n hx hb dX4_addRegion_10 rfl (lv_at hl 0 rfl) ?_
  refine kr_get (T := TX4) (N := 7) hx hb hts hown hK (hw.lv 0 0 (rfl : (0 : Nat) = 0)) rfl kin_X4_addRegion_X4 0 (by decide) (by decide +kernel) rfl dX4_addRegion_11 ?_
  refine kgo_pi (v := nI (σ 1 0)) (kc_V (As := []) (rest := []) S hE hS hAb (kw_size l hw 0 (by decide)) (cwV 0 hts gX4_addRegion_Jx4a65c_size_8abf5 rfl rfl rfl (by decide +kernel) ⟨Nat.le_of_ble_eq_true rfl, Nat.le_of_ble_eq_true rfl⟩) (hw.lv 1 0 (by decide : (0 : Nat) < 4)) rfl rfl hl.1 rfl (Nat.le_of_ble_eq_true rfl) dX4_addRegion_14 ⟨Nat.zero_le _, Nat.zero_le _⟩) hS (fun locs hS => ?_)
  refine lv_bipush (v := 6) hx hb dX4_addRegion_17 (by decide) ?_
  refine lv_icmp_lt (tgt := 32) hx hb dX4_addRegion_19 (by decide) (fun hc => absurd hc (nI_nlt (a := σ 1 0) (b := 6) h6 (by omega))) (fun _ => ?_)
  exact kthrow (E := "java/lang/IllegalStateException") (names := ["java/lang/RuntimeException", "java/lang/Exception"]) (ik := 43) (is := 45) (ic := 47) (k := 0) hst S hE hT hlocks hS hl.1 (by decide +kernel) (by decide +kernel) (by decide +kernel) rfl (by decide +kernel) (by decide +kernel) (by decide +kernel) dX4_addRegion_22 dX4_addRegion_25 dX4_addRegion_26 dX4_addRegion_28 dX4_addRegion_31 (by decide)
set_option maxHeartbeats 4000000 in
set_option maxRecDepth 100000 in
theorem cpx_addRegion2b (ε : kEnv) (l : Launch) {A : Nat → Prop} {ad : Nat → Nat → Nat} {σ : kS} {H : Heap} {r : Nat} (hw : kW ε A ad σ H) (hB : kB σ) (hst : l.stackTraces = false) (hr0 : r < σ 1 0) (h6 : 6 ≤ σ 1 0) : kX ε l yX4_addRegion wsX4_addRegion ({ frames := 7, cells := 1, slots := 6, locals := 120 }) [.ref (ad 0 0), .int (nI r)] H "java/lang/IllegalStateException" := by
  refine kofX (cc := cX4_addRegion) (maxL := 4) (ret := (some .int)) (by decide) rfl (Nat.le_of_ble_eq_true rfl) ?_
  intro p e s m below meth c ls S hr hlocks hT hH hE hl
  have S : CallFix p m c cX4_addRegion 4 s _ wsX4_addRegion RX4 := S
  have hx := S.1
  have hb := S.2.1
  have hown : s.vm.findClass RX4 = some m.cls := S.2.2.2.1
  have hts := S.2.2.2.2
  have hK := hE.1
  have hS : va_S kNo s.heap H [] := by rw [hH]; exact va_S.rf
  have hAb : ∀ q, kNo q → kHi ε q := fun _ h => h.elim
  have hnR := hB.nR
  have hnC := hB.nC
  have hnW := hB.nW
  have hnA := hB.nA
  have hmn := hB.min
  have hl : lv_has ls 4 [(0, .ref (ad 0 0)), (1, .int (nI r))] := hl
  refine lv_iload_n hx hb dX4_addRegion_0 rfl (lv_at hl 1 rfl) ?_
  refine lv_iconst (v := -1) hx hb dX4_addRegion_1 (by decide) ?_
  refine lv_icmp_eq (tgt := 10) hx hb dX4_addRegion_2 (by decide) (fun hc => absurd hc (fun h => nI_pos (n := r) (by omega) (by rw [h]; decide))) (fun _ => ?_)
  refine lv_aload_n hx hb dX4_addRegion_5 rfl (lv_at hl 0 rfl) ?_
  refine lv_iload_n hx hb dX4_addRegion_6 rfl (lv_at hl 1 rfl) ?_
  refine kgo_pv (kc_V (As := [.int (nI r)]) (rest := []) S hE hS hAb (cc_requireRegion ε l hw hB hr0) (cwV 1 hts gX4_addRegion_X4_requireRegion rfl rfl rfl (by decide +kernel) ⟨Nat.le_of_ble_eq_true rfl, Nat.le_of_ble_eq_true rfl⟩) (hw.lv 0 0 (rfl : (0 : Nat) = 0)) rfl rfl hl.1 rfl (Nat.le_of_ble_eq_true rfl) dX4_addRegion_7 ⟨Nat.zero_le _, Nat.zero_le _⟩) hS (fun locs hS => ?_)
  refine lv_aload_n hx hb dX4_addRegion_10 rfl (lv_at hl 0 rfl) ?_
  refine kr_get (T := TX4) (N := 7) hx hb hts hown hK (hw.lv 0 0 (rfl : (0 : Nat) = 0)) rfl kin_X4_addRegion_X4 0 (by decide) (by decide +kernel) rfl dX4_addRegion_11 ?_
  refine kgo_pi (v := nI (σ 1 0)) (kc_V (As := []) (rest := []) S hE hS hAb (kw_size l hw 0 (by decide)) (cwV 0 hts gX4_addRegion_Jx4a65c_size_8abf5 rfl rfl rfl (by decide +kernel) ⟨Nat.le_of_ble_eq_true rfl, Nat.le_of_ble_eq_true rfl⟩) (hw.lv 1 0 (by decide : (0 : Nat) < 4)) rfl rfl hl.1 rfl (Nat.le_of_ble_eq_true rfl) dX4_addRegion_14 ⟨Nat.zero_le _, Nat.zero_le _⟩) hS (fun locs hS => ?_)
  refine lv_bipush (v := 6) hx hb dX4_addRegion_17 (by decide) ?_
  refine lv_icmp_lt (tgt := 32) hx hb dX4_addRegion_19 (by decide) (fun hc => absurd hc (nI_nlt (a := σ 1 0) (b := 6) h6 (by omega))) (fun _ => ?_)
  exact kthrow (E := "java/lang/IllegalStateException") (names := ["java/lang/RuntimeException", "java/lang/Exception"]) (ik := 43) (is := 45) (ic := 47) (k := 0) hst S hE hT hlocks hS hl.1 (by decide +kernel) (by decide +kernel) (by decide +kernel) rfl (by decide +kernel) (by decide +kernel) (by decide +kernel) dX4_addRegion_22 dX4_addRegion_25 dX4_addRegion_26 dX4_addRegion_28 dX4_addRegion_31 (by decide)
set_option maxHeartbeats 4000000 in
set_option maxRecDepth 100000 in
theorem cpx_addCheck1 (ε : kEnv) (l : Launch) {A : Nat → Prop} {ad : Nat → Nat → Nat} {σ : kS} {H : Heap} {x1 x2 x3 x4 : Int32} (hw : kW ε A ad σ H) (hB : kB σ) (hst : l.stackTraces = false) (h : x1 < 1 ∨ ¬ x1 ≤ 60) : kX ε l yX4_addCheck wsX4_addCheck ({ frames := 7, cells := 1, slots := 6, locals := 120 }) [.ref (ad 0 0), .int x1, .int x2, .int x3, .int x4] H "java/lang/IllegalArgumentException" := by
  refine kofX (cc := cX4_addCheck) (maxL := 6) (ret := (some .int)) (by decide) rfl (Nat.le_of_ble_eq_true rfl) ?_
  intro p e s m below meth c ls S hr hlocks hT hH hE hl
  have S : CallFix p m c cX4_addCheck 6 s _ wsX4_addCheck RX4 := S
  have hx := S.1
  have hb := S.2.1
  have hown : s.vm.findClass RX4 = some m.cls := S.2.2.2.1
  have hts := S.2.2.2.2
  have hK := hE.1
  have hS : va_S kNo s.heap H [] := by rw [hH]; exact va_S.rf
  have hAb : ∀ q, kNo q → kHi ε q := fun _ h => h.elim
  have hnR := hB.nR
  have hnC := hB.nC
  have hnW := hB.nW
  have hnA := hB.nA
  have hmn := hB.min
  have hl : lv_has ls 6 [(0, .ref (ad 0 0)), (1, .int x1), (2, .int x2), (3, .int x3), (4, .int x4)] := hl
  refine lv_iload_n hx hb dX4_addCheck_0 rfl (lv_at hl 1 rfl) ?_
  refine lv_iconst (v := 1) hx hb dX4_addCheck_1 (by decide) ?_
  refine lv_bipush (v := 60) hx hb dX4_addCheck_2 (by decide) ?_
  exact kthru hT hlocks hH (kx_S (As := [.int x1, .int 1, .int 60]) (rest := []) S hE hS hAb (cx_rng ε l hst (h)) (va_cwS 3 hts gX4_addCheck_X4_requireRange rfl rfl rfl (by decide +kernel) ⟨Nat.le_of_ble_eq_true rfl, Nat.le_of_ble_eq_true rfl⟩) rfl hl.1 rfl (Nat.le_of_ble_eq_true rfl) dX4_addCheck_4 ⟨Nat.le_refl _, Nat.le_refl _⟩) hS
set_option maxHeartbeats 4000000 in
set_option maxRecDepth 100000 in
theorem cpx_addCheck2 (ε : kEnv) (l : Launch) {A : Nat → Prop} {ad : Nat → Nat → Nat} {σ : kS} {H : Heap} {x1 x2 x3 x4 : Int32} (hw : kW ε A ad σ H) (hB : kB σ) (hst : l.stackTraces = false) (a1 : ¬ x1 < 1) (b1 : x1 ≤ 60) (h : x2 < 0 ∨ ¬ x2 ≤ 1000) : kX ε l yX4_addCheck wsX4_addCheck ({ frames := 7, cells := 1, slots := 6, locals := 120 }) [.ref (ad 0 0), .int x1, .int x2, .int x3, .int x4] H "java/lang/IllegalArgumentException" := by
  refine kofX (cc := cX4_addCheck) (maxL := 6) (ret := (some .int)) (by decide) rfl (Nat.le_of_ble_eq_true rfl) ?_
  intro p e s m below meth c ls S hr hlocks hT hH hE hl
  have S : CallFix p m c cX4_addCheck 6 s _ wsX4_addCheck RX4 := S
  have hx := S.1
  have hb := S.2.1
  have hown : s.vm.findClass RX4 = some m.cls := S.2.2.2.1
  have hts := S.2.2.2.2
  have hK := hE.1
  have hS : va_S kNo s.heap H [] := by rw [hH]; exact va_S.rf
  have hAb : ∀ q, kNo q → kHi ε q := fun _ h => h.elim
  have hnR := hB.nR
  have hnC := hB.nC
  have hnW := hB.nW
  have hnA := hB.nA
  have hmn := hB.min
  have hl : lv_has ls 6 [(0, .ref (ad 0 0)), (1, .int x1), (2, .int x2), (3, .int x3), (4, .int x4)] := hl
  refine lv_iload_n hx hb dX4_addCheck_0 rfl (lv_at hl 1 rfl) ?_
  refine lv_iconst (v := 1) hx hb dX4_addCheck_1 (by decide) ?_
  refine lv_bipush (v := 60) hx hb dX4_addCheck_2 (by decide) ?_
  refine kgo_pv (kc_S (As := [.int x1, .int 1, .int 60]) (rest := []) S hE hS hAb (cc_rng ε l (a1) (b1)) (va_cwS 3 hts gX4_addCheck_X4_requireRange rfl rfl rfl (by decide +kernel) ⟨Nat.le_of_ble_eq_true rfl, Nat.le_of_ble_eq_true rfl⟩) rfl hl.1 rfl (Nat.le_of_ble_eq_true rfl) dX4_addCheck_4 ⟨Nat.zero_le _, Nat.zero_le _⟩) hS (fun locs hS => ?_)
  refine lv_iload_n hx hb dX4_addCheck_7 rfl (lv_at hl 2 rfl) ?_
  refine lv_iconst (v := 0) hx hb dX4_addCheck_8 (by decide) ?_
  refine lv_sipush (v := 1000) hx hb dX4_addCheck_9 (by decide) ?_
  exact kthru hT hlocks hH (kx_S (As := [.int x2, .int 0, .int 1000]) (rest := []) S hE hS hAb (cx_rng ε l hst (h)) (va_cwS 3 hts gX4_addCheck_X4_requireRange rfl rfl rfl (by decide +kernel) ⟨Nat.le_of_ble_eq_true rfl, Nat.le_of_ble_eq_true rfl⟩) rfl hl.1 rfl (Nat.le_of_ble_eq_true rfl) dX4_addCheck_12 ⟨Nat.le_refl _, Nat.le_refl _⟩) hS
set_option maxHeartbeats 4000000 in
set_option maxRecDepth 100000 in
theorem cpx_addCheck3 (ε : kEnv) (l : Launch) {A : Nat → Prop} {ad : Nat → Nat → Nat} {σ : kS} {H : Heap} {x1 x2 x3 x4 : Int32} (hw : kW ε A ad σ H) (hB : kB σ) (hst : l.stackTraces = false) (a1 : ¬ x1 < 1) (b1 : x1 ≤ 60) (a2 : ¬ x2 < 0) (b2 : x2 ≤ 1000) (h : x3 < 0 ∨ ¬ x3 ≤ 3) : kX ε l yX4_addCheck wsX4_addCheck ({ frames := 7, cells := 1, slots := 6, locals := 120 }) [.ref (ad 0 0), .int x1, .int x2, .int x3, .int x4] H "java/lang/IllegalArgumentException" := by
  refine kofX (cc := cX4_addCheck) (maxL := 6) (ret := (some .int)) (by decide) rfl (Nat.le_of_ble_eq_true rfl) ?_
  intro p e s m below meth c ls S hr hlocks hT hH hE hl
  have S : CallFix p m c cX4_addCheck 6 s _ wsX4_addCheck RX4 := S
  have hx := S.1
  have hb := S.2.1
  have hown : s.vm.findClass RX4 = some m.cls := S.2.2.2.1
  have hts := S.2.2.2.2
  have hK := hE.1
  have hS : va_S kNo s.heap H [] := by rw [hH]; exact va_S.rf
  have hAb : ∀ q, kNo q → kHi ε q := fun _ h => h.elim
  have hnR := hB.nR
  have hnC := hB.nC
  have hnW := hB.nW
  have hnA := hB.nA
  have hmn := hB.min
  have hl : lv_has ls 6 [(0, .ref (ad 0 0)), (1, .int x1), (2, .int x2), (3, .int x3), (4, .int x4)] := hl
  refine lv_iload_n hx hb dX4_addCheck_0 rfl (lv_at hl 1 rfl) ?_
  refine lv_iconst (v := 1) hx hb dX4_addCheck_1 (by decide) ?_
  refine lv_bipush (v := 60) hx hb dX4_addCheck_2 (by decide) ?_
  refine kgo_pv (kc_S (As := [.int x1, .int 1, .int 60]) (rest := []) S hE hS hAb (cc_rng ε l (a1) (b1)) (va_cwS 3 hts gX4_addCheck_X4_requireRange rfl rfl rfl (by decide +kernel) ⟨Nat.le_of_ble_eq_true rfl, Nat.le_of_ble_eq_true rfl⟩) rfl hl.1 rfl (Nat.le_of_ble_eq_true rfl) dX4_addCheck_4 ⟨Nat.zero_le _, Nat.zero_le _⟩) hS (fun locs hS => ?_)
  refine lv_iload_n hx hb dX4_addCheck_7 rfl (lv_at hl 2 rfl) ?_
  refine lv_iconst (v := 0) hx hb dX4_addCheck_8 (by decide) ?_
  refine lv_sipush (v := 1000) hx hb dX4_addCheck_9 (by decide) ?_
  refine kgo_pv (kc_S (As := [.int x2, .int 0, .int 1000]) (rest := []) S hE hS hAb (cc_rng ε l (a2) (b2)) (va_cwS 3 hts gX4_addCheck_X4_requireRange rfl rfl rfl (by decide +kernel) ⟨Nat.le_of_ble_eq_true rfl, Nat.le_of_ble_eq_true rfl⟩) rfl hl.1 rfl (Nat.le_of_ble_eq_true rfl) dX4_addCheck_12 ⟨Nat.zero_le _, Nat.zero_le _⟩) hS (fun locs hS => ?_)
  refine lv_iload_n hx hb dX4_addCheck_15 rfl (lv_at hl 3 rfl) ?_
  refine lv_iconst (v := 0) hx hb dX4_addCheck_16 (by decide) ?_
  refine lv_iconst (v := 3) hx hb dX4_addCheck_17 (by decide) ?_
  exact kthru hT hlocks hH (kx_S (As := [.int x3, .int 0, .int 3]) (rest := []) S hE hS hAb (cx_rng ε l hst (h)) (va_cwS 3 hts gX4_addCheck_X4_requireRange rfl rfl rfl (by decide +kernel) ⟨Nat.le_of_ble_eq_true rfl, Nat.le_of_ble_eq_true rfl⟩) rfl hl.1 rfl (Nat.le_of_ble_eq_true rfl) dX4_addCheck_18 ⟨Nat.le_refl _, Nat.le_refl _⟩) hS
set_option maxHeartbeats 4000000 in
set_option maxRecDepth 100000 in
theorem cpx_addCheck4 (ε : kEnv) (l : Launch) {A : Nat → Prop} {ad : Nat → Nat → Nat} {σ : kS} {H : Heap} {x1 x2 x3 x4 : Int32} (hw : kW ε A ad σ H) (hB : kB σ) (hst : l.stackTraces = false) (a1 : ¬ x1 < 1) (b1 : x1 ≤ 60) (a2 : ¬ x2 < 0) (b2 : x2 ≤ 1000) (a3 : ¬ x3 < 0) (b3 : x3 ≤ 3) (h : x4 < 1 ∨ ¬ x4 ≤ 6) : kX ε l yX4_addCheck wsX4_addCheck ({ frames := 7, cells := 1, slots := 6, locals := 120 }) [.ref (ad 0 0), .int x1, .int x2, .int x3, .int x4] H "java/lang/IllegalArgumentException" := by
  refine kofX (cc := cX4_addCheck) (maxL := 6) (ret := (some .int)) (by decide) rfl (Nat.le_of_ble_eq_true rfl) ?_
  intro p e s m below meth c ls S hr hlocks hT hH hE hl
  have S : CallFix p m c cX4_addCheck 6 s _ wsX4_addCheck RX4 := S
  have hx := S.1
  have hb := S.2.1
  have hown : s.vm.findClass RX4 = some m.cls := S.2.2.2.1
  have hts := S.2.2.2.2
  have hK := hE.1
  have hS : va_S kNo s.heap H [] := by rw [hH]; exact va_S.rf
  have hAb : ∀ q, kNo q → kHi ε q := fun _ h => h.elim
  have hnR := hB.nR
  have hnC := hB.nC
  have hnW := hB.nW
  have hnA := hB.nA
  have hmn := hB.min
  have hl : lv_has ls 6 [(0, .ref (ad 0 0)), (1, .int x1), (2, .int x2), (3, .int x3), (4, .int x4)] := hl
  refine lv_iload_n hx hb dX4_addCheck_0 rfl (lv_at hl 1 rfl) ?_
  refine lv_iconst (v := 1) hx hb dX4_addCheck_1 (by decide) ?_
  refine lv_bipush (v := 60) hx hb dX4_addCheck_2 (by decide) ?_
  refine kgo_pv (kc_S (As := [.int x1, .int 1, .int 60]) (rest := []) S hE hS hAb (cc_rng ε l (a1) (b1)) (va_cwS 3 hts gX4_addCheck_X4_requireRange rfl rfl rfl (by decide +kernel) ⟨Nat.le_of_ble_eq_true rfl, Nat.le_of_ble_eq_true rfl⟩) rfl hl.1 rfl (Nat.le_of_ble_eq_true rfl) dX4_addCheck_4 ⟨Nat.zero_le _, Nat.zero_le _⟩) hS (fun locs hS => ?_)
  refine lv_iload_n hx hb dX4_addCheck_7 rfl (lv_at hl 2 rfl) ?_
  refine lv_iconst (v := 0) hx hb dX4_addCheck_8 (by decide) ?_
  refine lv_sipush (v := 1000) hx hb dX4_addCheck_9 (by decide) ?_
  refine kgo_pv (kc_S (As := [.int x2, .int 0, .int 1000]) (rest := []) S hE hS hAb (cc_rng ε l (a2) (b2)) (va_cwS 3 hts gX4_addCheck_X4_requireRange rfl rfl rfl (by decide +kernel) ⟨Nat.le_of_ble_eq_true rfl, Nat.le_of_ble_eq_true rfl⟩) rfl hl.1 rfl (Nat.le_of_ble_eq_true rfl) dX4_addCheck_12 ⟨Nat.zero_le _, Nat.zero_le _⟩) hS (fun locs hS => ?_)
  refine lv_iload_n hx hb dX4_addCheck_15 rfl (lv_at hl 3 rfl) ?_
  refine lv_iconst (v := 0) hx hb dX4_addCheck_16 (by decide) ?_
  refine lv_iconst (v := 3) hx hb dX4_addCheck_17 (by decide) ?_
  refine kgo_pv (kc_S (As := [.int x3, .int 0, .int 3]) (rest := []) S hE hS hAb (cc_rng ε l (a3) (b3)) (va_cwS 3 hts gX4_addCheck_X4_requireRange rfl rfl rfl (by decide +kernel) ⟨Nat.le_of_ble_eq_true rfl, Nat.le_of_ble_eq_true rfl⟩) rfl hl.1 rfl (Nat.le_of_ble_eq_true rfl) dX4_addCheck_18 ⟨Nat.zero_le _, Nat.zero_le _⟩) hS (fun locs hS => ?_)
  refine lv_iload hx hb dX4_addCheck_21 (lv_at hl 4 rfl) ?_
  refine lv_iconst (v := 1) hx hb dX4_addCheck_23 (by decide) ?_
  refine lv_bipush (v := 6) hx hb dX4_addCheck_24 (by decide) ?_
  exact kthru hT hlocks hH (kx_S (As := [.int x4, .int 1, .int 6]) (rest := []) S hE hS hAb (cx_rng ε l hst (h)) (va_cwS 3 hts gX4_addCheck_X4_requireRange rfl rfl rfl (by decide +kernel) ⟨Nat.le_of_ble_eq_true rfl, Nat.le_of_ble_eq_true rfl⟩) rfl hl.1 rfl (Nat.le_of_ble_eq_true rfl) dX4_addCheck_26 ⟨Nat.le_refl _, Nat.le_refl _⟩) hS
set_option maxHeartbeats 4000000 in
set_option maxRecDepth 100000 in
theorem cpx_addCheck5 (ε : kEnv) (l : Launch) {A : Nat → Prop} {ad : Nat → Nat → Nat} {σ : kS} {H : Heap} {x1 x2 x3 x4 : Int32} (hw : kW ε A ad σ H) (hB : kB σ) (hst : l.stackTraces = false) (a1 : ¬ x1 < 1) (b1 : x1 ≤ 60) (a2 : ¬ x2 < 0) (b2 : x2 ≤ 1000) (a3 : ¬ x3 < 0) (b3 : x3 ≤ 3) (a4 : ¬ x4 < 1) (b4 : x4 ≤ 6) (h8 : 8 ≤ σ 2 0) : kX ε l yX4_addCheck wsX4_addCheck ({ frames := 7, cells := 1, slots := 6, locals := 120 }) [.ref (ad 0 0), .int x1, .int x2, .int x3, .int x4] H "java/lang/IllegalStateException" := by
  refine kofX (cc := cX4_addCheck) (maxL := 6) (ret := (some .int)) (by decide) rfl (Nat.le_of_ble_eq_true rfl) ?_
  intro p e s m below meth c ls S hr hlocks hT hH hE hl
  have S : CallFix p m c cX4_addCheck 6 s _ wsX4_addCheck RX4 := S
  have hx := S.1
  have hb := S.2.1
  have hown : s.vm.findClass RX4 = some m.cls := S.2.2.2.1
  have hts := S.2.2.2.2
  have hK := hE.1
  have hS : va_S kNo s.heap H [] := by rw [hH]; exact va_S.rf
  have hAb : ∀ q, kNo q → kHi ε q := fun _ h => h.elim
  have hnR := hB.nR
  have hnC := hB.nC
  have hnW := hB.nW
  have hnA := hB.nA
  have hmn := hB.min
  have hl : lv_has ls 6 [(0, .ref (ad 0 0)), (1, .int x1), (2, .int x2), (3, .int x3), (4, .int x4)] := hl
  refine lv_iload_n hx hb dX4_addCheck_0 rfl (lv_at hl 1 rfl) ?_
  refine lv_iconst (v := 1) hx hb dX4_addCheck_1 (by decide) ?_
  refine lv_bipush (v := 60) hx hb dX4_addCheck_2 (by decide) ?_
  refine kgo_pv (kc_S (As := [.int x1, .int 1, .int 60]) (rest := []) S hE hS hAb (cc_rng ε l (a1) (b1)) (va_cwS 3 hts gX4_addCheck_X4_requireRange rfl rfl rfl (by decide +kernel) ⟨Nat.le_of_ble_eq_true rfl, Nat.le_of_ble_eq_true rfl⟩) rfl hl.1 rfl (Nat.le_of_ble_eq_true rfl) dX4_addCheck_4 ⟨Nat.zero_le _, Nat.zero_le _⟩) hS (fun locs hS => ?_)
  refine lv_iload_n hx hb dX4_addCheck_7 rfl (lv_at hl 2 rfl) ?_
  refine lv_iconst (v := 0) hx hb dX4_addCheck_8 (by decide) ?_
  refine lv_sipush (v := 1000) hx hb dX4_addCheck_9 (by decide) ?_
  refine kgo_pv (kc_S (As := [.int x2, .int 0, .int 1000]) (rest := []) S hE hS hAb (cc_rng ε l (a2) (b2)) (va_cwS 3 hts gX4_addCheck_X4_requireRange rfl rfl rfl (by decide +kernel) ⟨Nat.le_of_ble_eq_true rfl, Nat.le_of_ble_eq_true rfl⟩) rfl hl.1 rfl (Nat.le_of_ble_eq_true rfl) dX4_addCheck_12 ⟨Nat.zero_le _, Nat.zero_le _⟩) hS (fun locs hS => ?_)
  refine lv_iload_n hx hb dX4_addCheck_15 rfl (lv_at hl 3 rfl) ?_
  refine lv_iconst (v := 0) hx hb dX4_addCheck_16 (by decide) ?_
  refine lv_iconst (v := 3) hx hb dX4_addCheck_17 (by decide) ?_
  refine kgo_pv (kc_S (As := [.int x3, .int 0, .int 3]) (rest := []) S hE hS hAb (cc_rng ε l (a3) (b3)) (va_cwS 3 hts gX4_addCheck_X4_requireRange rfl rfl rfl (by decide +kernel) ⟨Nat.le_of_ble_eq_true rfl, Nat.le_of_ble_eq_true rfl⟩) rfl hl.1 rfl (Nat.le_of_ble_eq_true rfl) dX4_addCheck_18 ⟨Nat.zero_le _, Nat.zero_le _⟩) hS (fun locs hS => ?_)
  refine lv_iload hx hb dX4_addCheck_21 (lv_at hl 4 rfl) ?_
  refine lv_iconst (v := 1) hx hb dX4_addCheck_23 (by decide) ?_
  refine lv_bipush (v := 6) hx hb dX4_addCheck_24 (by decide) ?_
  refine kgo_pv (kc_S (As := [.int x4, .int 1, .int 6]) (rest := []) S hE hS hAb (cc_rng ε l (a4) (b4)) (va_cwS 3 hts gX4_addCheck_X4_requireRange rfl rfl rfl (by decide +kernel) ⟨Nat.le_of_ble_eq_true rfl, Nat.le_of_ble_eq_true rfl⟩) rfl hl.1 rfl (Nat.le_of_ble_eq_true rfl) dX4_addCheck_26 ⟨Nat.zero_le _, Nat.zero_le _⟩) hS (fun locs hS => ?_)
  refine lv_aload_n hx hb dX4_addCheck_29 rfl (lv_at hl 0 rfl) ?_
  refine kr_get (T := TX4) (N := 7) hx hb hts hown hK (hw.lv 0 0 (rfl : (0 : Nat) = 0)) rfl kin_X4_addCheck_X4 1 (by decide) (by decide +kernel) rfl dX4_addCheck_30 ?_
  refine kgo_pi (v := nI (σ 2 0)) (kc_V (As := []) (rest := []) S hE hS hAb (kw_size l hw 1 (by decide)) (cwV 0 hts gX4_addCheck_Jx4a65c_size_8abf5 rfl rfl rfl (by decide +kernel) ⟨Nat.le_of_ble_eq_true rfl, Nat.le_of_ble_eq_true rfl⟩) (hw.lv 1 1 (by decide : (1 : Nat) < 4)) rfl rfl hl.1 rfl (Nat.le_of_ble_eq_true rfl) dX4_addCheck_33 ⟨Nat.zero_le _, Nat.zero_le _⟩) hS (fun locs hS => ?_)
  refine lv_bipush (v := 8) hx hb dX4_addCheck_36 (by decide) ?_
  refine lv_icmp_lt (tgt := 51) hx hb dX4_addCheck_38 (by decide) (fun hc => absurd hc (nI_nlt (a := σ 2 0) (b := 8) h8 (by omega))) (fun _ => ?_)
  exact kthrow (E := "java/lang/IllegalStateException") (names := ["java/lang/RuntimeException", "java/lang/Exception"]) (ik := 43) (is := 70) (ic := 47) (k := 1) hst S hE hT hlocks hS hl.1 (by decide +kernel) (by decide +kernel) (by decide +kernel) rfl (by decide +kernel) (by decide +kernel) (by decide +kernel) dX4_addCheck_41 dX4_addCheck_44 dX4_addCheck_45 dX4_addCheck_47 dX4_addCheck_50 (by decide)
set_option maxHeartbeats 4000000 in
set_option maxRecDepth 100000 in
theorem cpx_addWindow1 (ε : kEnv) (l : Launch) {A : Nat → Prop} {ad : Nat → Nat → Nat} {σ : kS} {H : Heap} {x x2 x3 : Int32} (hw : kW ε A ad σ H) (hB : kB σ) (hst : l.stackTraces = false) (h : x < 0 ∨ nI (σ 2 0) ≤ x) : kX ε l yX4_addWindow wsX4_addWindow ({ frames := 7, cells := 1, slots := 6, locals := 120 }) [.ref (ad 0 0), .int x, .int x2, .int x3] H "java/lang/IndexOutOfBoundsException" := by
  refine kofX (cc := cX4_addWindow) (maxL := 4) (ret := (some .int)) (by decide) rfl (Nat.le_of_ble_eq_true rfl) ?_
  intro p e s m below meth c ls S hr hlocks hT hH hE hl
  have S : CallFix p m c cX4_addWindow 4 s _ wsX4_addWindow RX4 := S
  have hx := S.1
  have hb := S.2.1
  have hown : s.vm.findClass RX4 = some m.cls := S.2.2.2.1
  have hts := S.2.2.2.2
  have hK := hE.1
  have hS : va_S kNo s.heap H [] := by rw [hH]; exact va_S.rf
  have hAb : ∀ q, kNo q → kHi ε q := fun _ h => h.elim
  have hnR := hB.nR
  have hnC := hB.nC
  have hnW := hB.nW
  have hnA := hB.nA
  have hmn := hB.min
  have hl : lv_has ls 4 [(0, .ref (ad 0 0)), (1, .int x), (2, .int x2), (3, .int x3)] := hl
  refine lv_aload_n hx hb dX4_addWindow_0 rfl (lv_at hl 0 rfl) ?_
  refine lv_iload_n hx hb dX4_addWindow_1 rfl (lv_at hl 1 rfl) ?_
  exact kthru hT hlocks hH (kx_V (As := [.int x]) (rest := []) S hE hS hAb (cx_requireCheck ε l hw hB hst h) (cwV 1 hts gX4_addWindow_X4_requireCheck rfl rfl rfl (by decide +kernel) ⟨Nat.le_of_ble_eq_true rfl, Nat.le_of_ble_eq_true rfl⟩) (hw.lv 0 0 (rfl : (0 : Nat) = 0)) rfl rfl hl.1 rfl (Nat.le_of_ble_eq_true rfl) dX4_addWindow_2 ⟨Nat.le_refl _, Nat.le_refl _⟩) hS
set_option maxHeartbeats 4000000 in
set_option maxRecDepth 100000 in
theorem cpx_addWindow2 (ε : kEnv) (l : Launch) {A : Nat → Prop} {ad : Nat → Nat → Nat} {σ : kS} {H : Heap} {i : Nat} {x2 x3 : Int32} (hw : kW ε A ad σ H) (hB : kB σ) (hst : l.stackTraces = false) (hc0 : i < σ 2 0) (h : x2 < 0 ∨ ¬ x2 ≤ 100000) : kX ε l yX4_addWindow wsX4_addWindow ({ frames := 7, cells := 1, slots := 6, locals := 120 }) [.ref (ad 0 0), .int (nI i), .int x2, .int x3] H "java/lang/IllegalArgumentException" := by
  refine kofX (cc := cX4_addWindow) (maxL := 4) (ret := (some .int)) (by decide) rfl (Nat.le_of_ble_eq_true rfl) ?_
  intro p e s m below meth c ls S hr hlocks hT hH hE hl
  have S : CallFix p m c cX4_addWindow 4 s _ wsX4_addWindow RX4 := S
  have hx := S.1
  have hb := S.2.1
  have hown : s.vm.findClass RX4 = some m.cls := S.2.2.2.1
  have hts := S.2.2.2.2
  have hK := hE.1
  have hS : va_S kNo s.heap H [] := by rw [hH]; exact va_S.rf
  have hAb : ∀ q, kNo q → kHi ε q := fun _ h => h.elim
  have hnR := hB.nR
  have hnC := hB.nC
  have hnW := hB.nW
  have hnA := hB.nA
  have hmn := hB.min
  have hl : lv_has ls 4 [(0, .ref (ad 0 0)), (1, .int (nI i)), (2, .int x2), (3, .int x3)] := hl
  refine lv_aload_n hx hb dX4_addWindow_0 rfl (lv_at hl 0 rfl) ?_
  refine lv_iload_n hx hb dX4_addWindow_1 rfl (lv_at hl 1 rfl) ?_
  refine kgo_pv (kc_V (As := [.int (nI i)]) (rest := []) S hE hS hAb (cc_requireCheck ε l hw hB hc0) (cwV 1 hts gX4_addWindow_X4_requireCheck rfl rfl rfl (by decide +kernel) ⟨Nat.le_of_ble_eq_true rfl, Nat.le_of_ble_eq_true rfl⟩) (hw.lv 0 0 (rfl : (0 : Nat) = 0)) rfl rfl hl.1 rfl (Nat.le_of_ble_eq_true rfl) dX4_addWindow_2 ⟨Nat.zero_le _, Nat.zero_le _⟩) hS (fun locs hS => ?_)
  refine lv_iload_n hx hb dX4_addWindow_5 rfl (lv_at hl 2 rfl) ?_
  refine lv_iconst (v := 0) hx hb dX4_addWindow_6 (by decide) ?_
  refine lv_ldc (own := RX4) (v := 100000) hx hb hown (hts (.constant RX4 94 (100000)) (by decide +kernel)) dX4_addWindow_7 ?_
  exact kthru hT hlocks hH (kx_S (As := [.int x2, .int 0, .int 100000]) (rest := []) S hE hS hAb (cx_rng ε l hst (h)) (va_cwS 3 hts gX4_addWindow_X4_requireRange rfl rfl rfl (by decide +kernel) ⟨Nat.le_of_ble_eq_true rfl, Nat.le_of_ble_eq_true rfl⟩) rfl hl.1 rfl (Nat.le_of_ble_eq_true rfl) dX4_addWindow_9 ⟨Nat.le_refl _, Nat.le_refl _⟩) hS
set_option maxHeartbeats 4000000 in
set_option maxRecDepth 100000 in
theorem cpx_addWindow3 (ε : kEnv) (l : Launch) {A : Nat → Prop} {ad : Nat → Nat → Nat} {σ : kS} {H : Heap} {i : Nat} {x2 x3 : Int32} (hw : kW ε A ad σ H) (hB : kB σ) (hst : l.stackTraces = false) (hc0 : i < σ 2 0) (a1 : ¬ x2 < 0) (b1 : x2 ≤ 100000) (h : x3 < 1 ∨ ¬ x3 ≤ 10000) : kX ε l yX4_addWindow wsX4_addWindow ({ frames := 7, cells := 1, slots := 6, locals := 120 }) [.ref (ad 0 0), .int (nI i), .int x2, .int x3] H "java/lang/IllegalArgumentException" := by
  refine kofX (cc := cX4_addWindow) (maxL := 4) (ret := (some .int)) (by decide) rfl (Nat.le_of_ble_eq_true rfl) ?_
  intro p e s m below meth c ls S hr hlocks hT hH hE hl
  have S : CallFix p m c cX4_addWindow 4 s _ wsX4_addWindow RX4 := S
  have hx := S.1
  have hb := S.2.1
  have hown : s.vm.findClass RX4 = some m.cls := S.2.2.2.1
  have hts := S.2.2.2.2
  have hK := hE.1
  have hS : va_S kNo s.heap H [] := by rw [hH]; exact va_S.rf
  have hAb : ∀ q, kNo q → kHi ε q := fun _ h => h.elim
  have hnR := hB.nR
  have hnC := hB.nC
  have hnW := hB.nW
  have hnA := hB.nA
  have hmn := hB.min
  have hl : lv_has ls 4 [(0, .ref (ad 0 0)), (1, .int (nI i)), (2, .int x2), (3, .int x3)] := hl
  refine lv_aload_n hx hb dX4_addWindow_0 rfl (lv_at hl 0 rfl) ?_
  refine lv_iload_n hx hb dX4_addWindow_1 rfl (lv_at hl 1 rfl) ?_
  refine kgo_pv (kc_V (As := [.int (nI i)]) (rest := []) S hE hS hAb (cc_requireCheck ε l hw hB hc0) (cwV 1 hts gX4_addWindow_X4_requireCheck rfl rfl rfl (by decide +kernel) ⟨Nat.le_of_ble_eq_true rfl, Nat.le_of_ble_eq_true rfl⟩) (hw.lv 0 0 (rfl : (0 : Nat) = 0)) rfl rfl hl.1 rfl (Nat.le_of_ble_eq_true rfl) dX4_addWindow_2 ⟨Nat.zero_le _, Nat.zero_le _⟩) hS (fun locs hS => ?_)
  refine lv_iload_n hx hb dX4_addWindow_5 rfl (lv_at hl 2 rfl) ?_
  refine lv_iconst (v := 0) hx hb dX4_addWindow_6 (by decide) ?_
  refine lv_ldc (own := RX4) (v := 100000) hx hb hown (hts (.constant RX4 94 (100000)) (by decide +kernel)) dX4_addWindow_7 ?_
  refine kgo_pv (kc_S (As := [.int x2, .int 0, .int 100000]) (rest := []) S hE hS hAb (cc_rng ε l (a1) (b1)) (va_cwS 3 hts gX4_addWindow_X4_requireRange rfl rfl rfl (by decide +kernel) ⟨Nat.le_of_ble_eq_true rfl, Nat.le_of_ble_eq_true rfl⟩) rfl hl.1 rfl (Nat.le_of_ble_eq_true rfl) dX4_addWindow_9 ⟨Nat.zero_le _, Nat.zero_le _⟩) hS (fun locs hS => ?_)
  refine lv_iload_n hx hb dX4_addWindow_12 rfl (lv_at hl 3 rfl) ?_
  refine lv_iconst (v := 1) hx hb dX4_addWindow_13 (by decide) ?_
  refine lv_sipush (v := 10000) hx hb dX4_addWindow_14 (by decide) ?_
  exact kthru hT hlocks hH (kx_S (As := [.int x3, .int 1, .int 10000]) (rest := []) S hE hS hAb (cx_rng ε l hst (h)) (va_cwS 3 hts gX4_addWindow_X4_requireRange rfl rfl rfl (by decide +kernel) ⟨Nat.le_of_ble_eq_true rfl, Nat.le_of_ble_eq_true rfl⟩) rfl hl.1 rfl (Nat.le_of_ble_eq_true rfl) dX4_addWindow_17 ⟨Nat.le_refl _, Nat.le_refl _⟩) hS
set_option maxHeartbeats 4000000 in
set_option maxRecDepth 100000 in
theorem cpx_addWindow4 (ε : kEnv) (l : Launch) {A : Nat → Prop} {ad : Nat → Nat → Nat} {σ : kS} {H : Heap} {i : Nat} {x2 x3 : Int32} (hw : kW ε A ad σ H) (hB : kB σ) (hst : l.stackTraces = false) (hc0 : i < σ 2 0) (a1 : ¬ x2 < 0) (b1 : x2 ≤ 100000) (a2 : ¬ x3 < 1) (b2 : x3 ≤ 10000) (h12 : 12 ≤ σ 3 0) : kX ε l yX4_addWindow wsX4_addWindow ({ frames := 7, cells := 1, slots := 6, locals := 120 }) [.ref (ad 0 0), .int (nI i), .int x2, .int x3] H "java/lang/IllegalStateException" := by
  refine kofX (cc := cX4_addWindow) (maxL := 4) (ret := (some .int)) (by decide) rfl (Nat.le_of_ble_eq_true rfl) ?_
  intro p e s m below meth c ls S hr hlocks hT hH hE hl
  have S : CallFix p m c cX4_addWindow 4 s _ wsX4_addWindow RX4 := S
  have hx := S.1
  have hb := S.2.1
  have hown : s.vm.findClass RX4 = some m.cls := S.2.2.2.1
  have hts := S.2.2.2.2
  have hK := hE.1
  have hS : va_S kNo s.heap H [] := by rw [hH]; exact va_S.rf
  have hAb : ∀ q, kNo q → kHi ε q := fun _ h => h.elim
  have hnR := hB.nR
  have hnC := hB.nC
  have hnW := hB.nW
  have hnA := hB.nA
  have hmn := hB.min
  have hl : lv_has ls 4 [(0, .ref (ad 0 0)), (1, .int (nI i)), (2, .int x2), (3, .int x3)] := hl
  refine lv_aload_n hx hb dX4_addWindow_0 rfl (lv_at hl 0 rfl) ?_
  refine lv_iload_n hx hb dX4_addWindow_1 rfl (lv_at hl 1 rfl) ?_
  refine kgo_pv (kc_V (As := [.int (nI i)]) (rest := []) S hE hS hAb (cc_requireCheck ε l hw hB hc0) (cwV 1 hts gX4_addWindow_X4_requireCheck rfl rfl rfl (by decide +kernel) ⟨Nat.le_of_ble_eq_true rfl, Nat.le_of_ble_eq_true rfl⟩) (hw.lv 0 0 (rfl : (0 : Nat) = 0)) rfl rfl hl.1 rfl (Nat.le_of_ble_eq_true rfl) dX4_addWindow_2 ⟨Nat.zero_le _, Nat.zero_le _⟩) hS (fun locs hS => ?_)
  refine lv_iload_n hx hb dX4_addWindow_5 rfl (lv_at hl 2 rfl) ?_
  refine lv_iconst (v := 0) hx hb dX4_addWindow_6 (by decide) ?_
  refine lv_ldc (own := RX4) (v := 100000) hx hb hown (hts (.constant RX4 94 (100000)) (by decide +kernel)) dX4_addWindow_7 ?_
  refine kgo_pv (kc_S (As := [.int x2, .int 0, .int 100000]) (rest := []) S hE hS hAb (cc_rng ε l (a1) (b1)) (va_cwS 3 hts gX4_addWindow_X4_requireRange rfl rfl rfl (by decide +kernel) ⟨Nat.le_of_ble_eq_true rfl, Nat.le_of_ble_eq_true rfl⟩) rfl hl.1 rfl (Nat.le_of_ble_eq_true rfl) dX4_addWindow_9 ⟨Nat.zero_le _, Nat.zero_le _⟩) hS (fun locs hS => ?_)
  refine lv_iload_n hx hb dX4_addWindow_12 rfl (lv_at hl 3 rfl) ?_
  refine lv_iconst (v := 1) hx hb dX4_addWindow_13 (by decide) ?_
  refine lv_sipush (v := 10000) hx hb dX4_addWindow_14 (by decide) ?_
  refine kgo_pv (kc_S (As := [.int x3, .int 1, .int 10000]) (rest := []) S hE hS hAb (cc_rng ε l (a2) (b2)) (va_cwS 3 hts gX4_addWindow_X4_requireRange rfl rfl rfl (by decide +kernel) ⟨Nat.le_of_ble_eq_true rfl, Nat.le_of_ble_eq_true rfl⟩) rfl hl.1 rfl (Nat.le_of_ble_eq_true rfl) dX4_addWindow_17 ⟨Nat.zero_le _, Nat.zero_le _⟩) hS (fun locs hS => ?_)
  refine lv_aload_n hx hb dX4_addWindow_20 rfl (lv_at hl 0 rfl) ?_
  refine kr_get (T := TX4) (N := 7) hx hb hts hown hK (hw.lv 0 0 (rfl : (0 : Nat) = 0)) rfl kin_X4_addWindow_X4 2 (by decide) (by decide +kernel) rfl dX4_addWindow_21 ?_
  refine kgo_pi (v := nI (σ 3 0)) (kc_V (As := []) (rest := []) S hE hS hAb (kw_size l hw 2 (by decide)) (cwV 0 hts gX4_addWindow_Jx4a65c_size_8abf5 rfl rfl rfl (by decide +kernel) ⟨Nat.le_of_ble_eq_true rfl, Nat.le_of_ble_eq_true rfl⟩) (hw.lv 1 2 (by decide : (2 : Nat) < 4)) rfl rfl hl.1 rfl (Nat.le_of_ble_eq_true rfl) dX4_addWindow_24 ⟨Nat.zero_le _, Nat.zero_le _⟩) hS (fun locs hS => ?_)
  refine lv_bipush (v := 12) hx hb dX4_addWindow_27 (by decide) ?_
  refine lv_icmp_lt (tgt := 42) hx hb dX4_addWindow_29 (by decide) (fun hc => absurd hc (nI_nlt (a := σ 3 0) (b := 12) h12 (by omega))) (fun _ => ?_)
  exact kthrow (E := "java/lang/IllegalStateException") (names := ["java/lang/RuntimeException", "java/lang/Exception"]) (ik := 43) (is := 95) (ic := 47) (k := 2) hst S hE hT hlocks hS hl.1 (by decide +kernel) (by decide +kernel) (by decide +kernel) rfl (by decide +kernel) (by decide +kernel) (by decide +kernel) dX4_addWindow_32 dX4_addWindow_35 dX4_addWindow_36 dX4_addWindow_38 dX4_addWindow_41 (by decide)
theorem kin_X4_availability_X4 : ∀ w ∈ wsX40, w ∈ wsX4_availability := by decide +kernel
theorem kin_X4_availability_X1 : ∀ w ∈ wsX10, w ∈ wsX4_availability := by decide +kernel
set_option maxHeartbeats 4000000 in
set_option maxRecDepth 100000 in
theorem cpx_availability1 (ε : kEnv) (l : Launch) {A : Nat → Prop} {ad : Nat → Nat → Nat} {σ : kS} {H : Heap} {x : Int32} (hw : kW ε A ad σ H) (hB : kB σ) (hst : l.stackTraces = false) (h : x < 0 ∨ nI (σ 2 0) ≤ x) : kX ε l yX4_availability wsX4_availability ({ frames := 7, cells := 1, slots := 6, locals := 120 }) [.ref (ad 0 0), .int x] H "java/lang/IndexOutOfBoundsException" := by
  refine kofX (cc := cX4_availability) (maxL := 3) (ret := (some .float)) (by decide) rfl (Nat.le_of_ble_eq_true rfl) ?_
  intro p e s m below meth c ls S hr hlocks hT hH hE hl
  have S : CallFix p m c cX4_availability 3 s _ wsX4_availability RX4 := S
  have hx := S.1
  have hb := S.2.1
  have hown : s.vm.findClass RX4 = some m.cls := S.2.2.2.1
  have hts := S.2.2.2.2
  have hK := hE.1
  have hS : va_S kNo s.heap H [] := by rw [hH]; exact va_S.rf
  have hAb : ∀ q, kNo q → kHi ε q := fun _ h => h.elim
  have hnR := hB.nR
  have hnC := hB.nC
  have hnW := hB.nW
  have hnA := hB.nA
  have hmn := hB.min
  have hl : lv_has ls 3 [(0, .ref (ad 0 0)), (1, .int x)] := hl
  refine lv_aload_n hx hb dX4_availability_0 rfl (lv_at hl 0 rfl) ?_
  refine lv_iload_n hx hb dX4_availability_1 rfl (lv_at hl 1 rfl) ?_
  exact kthru hT hlocks hH (kx_V (As := [.int x]) (rest := []) S hE hS hAb (cx_requireCheck ε l hw hB hst h) (cwV 1 hts gX4_availability_X4_requireCheck rfl rfl rfl (by decide +kernel) ⟨Nat.le_of_ble_eq_true rfl, Nat.le_of_ble_eq_true rfl⟩) (hw.lv 0 0 (rfl : (0 : Nat) = 0)) rfl rfl hl.1 rfl (Nat.le_of_ble_eq_true rfl) dX4_availability_2 ⟨Nat.le_refl _, Nat.le_refl _⟩) hS
set_option maxHeartbeats 4000000 in
set_option maxRecDepth 100000 in
theorem cpx_availability2 (ε : kEnv) (l : Launch) {A : Nat → Prop} {ad : Nat → Nat → Nat} {σ : kS} {H : Heap} {i : Nat} (hw : kW ε A ad σ H) (hB : kB σ) (hst : l.stackTraces = false) (hc0 : i < σ 2 0) (h0 : σ 27 i = 0) : kX ε l yX4_availability wsX4_availability ({ frames := 7, cells := 1, slots := 6, locals := 120 }) [.ref (ad 0 0), .int (nI i)] H "java/lang/IllegalStateException" := by
  refine kofX (cc := cX4_availability) (maxL := 3) (ret := (some .float)) (by decide) rfl (Nat.le_of_ble_eq_true rfl) ?_
  intro p e s m below meth c ls S hr hlocks hT hH hE hl
  have S : CallFix p m c cX4_availability 3 s _ wsX4_availability RX4 := S
  have hx := S.1
  have hb := S.2.1
  have hown : s.vm.findClass RX4 = some m.cls := S.2.2.2.1
  have hts := S.2.2.2.2
  have hK := hE.1
  have hS : va_S kNo s.heap H [] := by rw [hH]; exact va_S.rf
  have hAb : ∀ q, kNo q → kHi ε q := fun _ h => h.elim
  have hnR := hB.nR
  have hnC := hB.nC
  have hnW := hB.nW
  have hnA := hB.nA
  have hmn := hB.min
  have hl : lv_has ls 3 [(0, .ref (ad 0 0)), (1, .int (nI i))] := hl
  refine lv_aload_n hx hb dX4_availability_0 rfl (lv_at hl 0 rfl) ?_
  refine lv_iload_n hx hb dX4_availability_1 rfl (lv_at hl 1 rfl) ?_
  refine kgo_pv (kc_V (As := [.int (nI i)]) (rest := []) S hE hS hAb (cc_requireCheck ε l hw hB hc0) (cwV 1 hts gX4_availability_X4_requireCheck rfl rfl rfl (by decide +kernel) ⟨Nat.le_of_ble_eq_true rfl, Nat.le_of_ble_eq_true rfl⟩) (hw.lv 0 0 (rfl : (0 : Nat) = 0)) rfl rfl hl.1 rfl (Nat.le_of_ble_eq_true rfl) dX4_availability_2 ⟨Nat.zero_le _, Nat.zero_le _⟩) hS (fun locs hS => ?_)
  refine lv_aload_n hx hb dX4_availability_5 rfl (lv_at hl 0 rfl) ?_
  refine kr_get (T := TX4) (N := 7) hx hb hts hown hK (hw.lv 0 0 (rfl : (0 : Nat) = 0)) rfl kin_X4_availability_X4 1 (by decide) (by decide +kernel) rfl dX4_availability_6 ?_
  refine lv_iload_n hx hb dX4_availability_9 rfl (lv_at hl 1 rfl) ?_
  refine kgo_pr (v := ad 4 i) (kc_V (As := [.int (nI i)]) (rest := []) S hE hS hAb (kw_get l hw hB 1 (by decide) (j := i) (x := ad 4 i) hc0 rfl) (cwV 1 hts gX4_availability_Jx4a65c_get_915e3 rfl rfl rfl (by decide +kernel) ⟨Nat.le_of_ble_eq_true rfl, Nat.le_of_ble_eq_true rfl⟩) (hw.lv 1 1 (by decide : (1 : Nat) < 4)) rfl rfl hl.1 rfl (Nat.le_of_ble_eq_true rfl) dX4_availability_10 ⟨Nat.zero_le _, Nat.zero_le _⟩) hS (fun locs hS => ?_)
  refine kr_cast (T := TX1) (N := 13) hx hb hts hown hK (hw.lv 4 i hc0) rfl (by decide +kernel) dX4_availability_13 ?_
  refine lv_astore_n (lv' := [(2, .ref (ad 4 i)), (0, .ref (ad 0 0)), (1, .int (nI i))]) hx hb dX4_availability_16 rfl hl (by decide) rfl (fun ls hl => ?_)
  refine lv_aload_n hx hb dX4_availability_17 rfl (lv_at hl 0 rfl) ?_
  refine kr_get (T := TX1) (N := 13) hx hb hts hown hK (hw.lv 4 i hc0) rfl kin_X4_availability_X1 12 (by decide) (by decide +kernel) rfl dX4_availability_18 ?_
  refine lv_if_ne (tgt := 34) hx hb dX4_availability_21 (by decide) (fun hc => absurd (show nI (σ 27 i) = 0 by rw [h0]; rfl) hc) (fun _ => ?_)
  exact kthrow (E := "java/lang/IllegalStateException") (names := ["java/lang/RuntimeException", "java/lang/Exception"]) (ik := 43) (is := 164) (ic := 47) (k := 4) hst S hE hT hlocks hS hl.1 (by decide +kernel) (by decide +kernel) (by decide +kernel) rfl (by decide +kernel) (by decide +kernel) (by decide +kernel) dX4_availability_24 dX4_availability_27 dX4_availability_28 dX4_availability_30 dX4_availability_33 (by decide)
