theorem kin_X4_requireRegion_X4 : ∀ w ∈ wsX40, w ∈ wsX4_requireRegion := by decide +kernel
set_option maxHeartbeats 4000000 in
set_option maxRecDepth 100000 in
theorem cc_requireRegion (ε : kEnv) (l : Launch) {A : Nat → Prop} {ad : Nat → Nat → Nat} {σ : kS} {H : Heap} {r : Nat} (hw : kW ε A ad σ H) (hB : kB σ) (h : r < σ 1 0) : kPv ε l yX4_requireRegion wsX4_requireRegion ({ frames := 1, cells := 0, slots := 0, locals := 20 }) [.ref (ad 0 0), .int (nI r)] H := by
  refine kof (cc := cX4_requireRegion) (maxL := 2) (ret := none) (by decide) rfl (Nat.le_of_ble_eq_true rfl) ?_
  intro p e s m below meth c ls S hr hlocks hin hH hE hl
  have S : CallFix p m c cX4_requireRegion 2 s _ wsX4_requireRegion RX4 := S
  have hx := S.1
  have hb := S.2.1
  have hown : s.vm.findClass RX4 = some m.cls := S.2.2.2.1
  have hts := S.2.2.2.2
  have hK := hE.1
  have hS : va_S kNo s.heap H [] := by rw [hH]; exact va_S.rf
  have hAb : ∀ q, kNo q → kHi ε q := fun _ h => h.elim
  have hl : lv_has ls 2 [(0, .ref (ad 0 0)), (1, .int (nI r))] := hl
  refine lv_iload_n hx hb dX4_requireRegion_0 rfl (lv_at hl 1 rfl) ?_
  refine lv_if_lt (tgt := 15) hx hb dX4_requireRegion_1 (by decide) (fun hc => absurd hc (nI_pos (Nat.lt_trans h (hB.cnt 0 (by decide))))) (fun _ => ?_)
  refine lv_iload_n hx hb dX4_requireRegion_4 rfl (lv_at hl 1 rfl) ?_
  refine lv_aload_n hx hb dX4_requireRegion_5 rfl (lv_at hl 0 rfl) ?_
  refine kr_get (T := TX4) (N := 7) hx hb hts hown hK (hw.lv 0 0 (rfl : (0 : Nat) = 0)) rfl kin_X4_requireRegion_X4 0 (by decide) (by decide +kernel) rfl dX4_requireRegion_6 ?_
  refine kgo_pi (kc_V (As := []) (rest := [.int (nI r)]) S hE hS hAb (kw_size l hw 0 (by decide)) (cwV 0 hts gX4_requireRegion_Jx4a65c_size_8abf5 rfl rfl rfl (by decide +kernel) ⟨Nat.le_of_ble_eq_true rfl, Nat.le_of_ble_eq_true rfl⟩) (hw.lv 1 0 (by decide : (0 : Nat) < 4)) rfl rfl hl.1 rfl (Nat.le_of_ble_eq_true rfl) dX4_requireRegion_9 ⟨Nat.zero_le _, Nat.zero_le _⟩) hS (fun locs hS => ?_)
  refine lv_icmp_lt (tgt := 25) hx hb dX4_requireRegion_12 (by decide) (fun _ => ?_) (fun hc => absurd (nI_lt h (hB.cnt 0 (by decide))) hc)
  exact kend_v S hr hlocks hS rfl dX4_requireRegion_25
set_option maxHeartbeats 4000000 in
set_option maxRecDepth 100000 in
theorem cx_requireRegion (ε : kEnv) (l : Launch) {A : Nat → Prop} {ad : Nat → Nat → Nat} {σ : kS} {H : Heap} {x : Int32} (hw : kW ε A ad σ H) (hB : kB σ) (hst : l.stackTraces = false) (h : x < 0 ∨ nI (σ 1 0) ≤ x) : kX ε l yX4_requireRegion wsX4_requireRegion ({ frames := 6, cells := 1, slots := 6, locals := 90 }) [.ref (ad 0 0), .int x] H "java/lang/IndexOutOfBoundsException" := by
  refine kofX (cc := cX4_requireRegion) (maxL := 2) (ret := none) (by decide) rfl (Nat.le_of_ble_eq_true rfl) ?_
  intro p e s m below meth c ls S hr hlocks hT hH hE hl
  have S : CallFix p m c cX4_requireRegion 2 s _ wsX4_requireRegion RX4 := S
  have hx := S.1
  have hb := S.2.1
  have hown : s.vm.findClass RX4 = some m.cls := S.2.2.2.1
  have hts := S.2.2.2.2
  have hK := hE.1
  have hS : va_S kNo s.heap H [] := by rw [hH]; exact va_S.rf
  have hAb : ∀ q, kNo q → kHi ε q := fun _ h => h.elim
  have hl : lv_has ls 2 [(0, .ref (ad 0 0)), (1, .int x)] := hl
  refine lv_iload_n hx hb dX4_requireRegion_0 rfl (lv_at hl 1 rfl) ?_
  refine lv_if_lt (tgt := 15) hx hb dX4_requireRegion_1 (by decide) (fun hc1 => ?_) (fun hc1 => ?_)
  · exact kthrow (E := "java/lang/IndexOutOfBoundsException") (names := ["java/lang/RuntimeException", "java/lang/Exception"]) (ik := 101) (is := 169) (ic := 105) (k := 5) hst S hE hT hlocks hS hl.1 (by decide +kernel) (by decide +kernel) (by decide +kernel) rfl (by decide +kernel) (by decide +kernel) (by decide +kernel) dX4_requireRegion_15 dX4_requireRegion_18 dX4_requireRegion_19 dX4_requireRegion_21 dX4_requireRegion_24 (by decide)
  · refine lv_iload_n hx hb dX4_requireRegion_4 rfl (lv_at hl 1 rfl) ?_
    refine lv_aload_n hx hb dX4_requireRegion_5 rfl (lv_at hl 0 rfl) ?_
    refine kr_get (T := TX4) (N := 7) hx hb hts hown hK (hw.lv 0 0 (rfl : (0 : Nat) = 0)) rfl kin_X4_requireRegion_X4 0 (by decide) (by decide +kernel) rfl dX4_requireRegion_6 ?_
    refine kgo_pi (kc_V (As := []) (rest := [.int x]) S hE hS hAb (kw_size l hw 0 (by decide)) (cwV 0 hts gX4_requireRegion_Jx4a65c_size_8abf5 rfl rfl rfl (by decide +kernel) ⟨Nat.le_of_ble_eq_true rfl, Nat.le_of_ble_eq_true rfl⟩) (hw.lv 1 0 (by decide : (0 : Nat) < 4)) rfl rfl hl.1 rfl (Nat.le_of_ble_eq_true rfl) dX4_requireRegion_9 ⟨Nat.zero_le _, Nat.zero_le _⟩) hS (fun locs hS => ?_)
    refine lv_icmp_lt (tgt := 25) hx hb dX4_requireRegion_12 (by decide) (fun hc => absurd hc (Int32.not_lt.mpr (h.resolve_left hc1))) (fun _ => ?_)
    exact kthrow (E := "java/lang/IndexOutOfBoundsException") (names := ["java/lang/RuntimeException", "java/lang/Exception"]) (ik := 101) (is := 169) (ic := 105) (k := 5) hst S hE hT hlocks hS hl.1 (by decide +kernel) (by decide +kernel) (by decide +kernel) rfl (by decide +kernel) (by decide +kernel) (by decide +kernel) dX4_requireRegion_15 dX4_requireRegion_18 dX4_requireRegion_19 dX4_requireRegion_21 dX4_requireRegion_24 (by decide)
theorem kin_X4_requireCheck_X4 : ∀ w ∈ wsX40, w ∈ wsX4_requireCheck := by decide +kernel
set_option maxHeartbeats 4000000 in
set_option maxRecDepth 100000 in
theorem cc_requireCheck (ε : kEnv) (l : Launch) {A : Nat → Prop} {ad : Nat → Nat → Nat} {σ : kS} {H : Heap} {r : Nat} (hw : kW ε A ad σ H) (hB : kB σ) (h : r < σ 2 0) : kPv ε l yX4_requireCheck wsX4_requireCheck ({ frames := 1, cells := 0, slots := 0, locals := 20 }) [.ref (ad 0 0), .int (nI r)] H := by
  refine kof (cc := cX4_requireCheck) (maxL := 2) (ret := none) (by decide) rfl (Nat.le_of_ble_eq_true rfl) ?_
  intro p e s m below meth c ls S hr hlocks hin hH hE hl
  have S : CallFix p m c cX4_requireCheck 2 s _ wsX4_requireCheck RX4 := S
  have hx := S.1
  have hb := S.2.1
  have hown : s.vm.findClass RX4 = some m.cls := S.2.2.2.1
  have hts := S.2.2.2.2
  have hK := hE.1
  have hS : va_S kNo s.heap H [] := by rw [hH]; exact va_S.rf
  have hAb : ∀ q, kNo q → kHi ε q := fun _ h => h.elim
  have hl : lv_has ls 2 [(0, .ref (ad 0 0)), (1, .int (nI r))] := hl
  refine lv_iload_n hx hb dX4_requireCheck_0 rfl (lv_at hl 1 rfl) ?_
  refine lv_if_lt (tgt := 15) hx hb dX4_requireCheck_1 (by decide) (fun hc => absurd hc (nI_pos (Nat.lt_trans h (hB.cnt 1 (by decide))))) (fun _ => ?_)
  refine lv_iload_n hx hb dX4_requireCheck_4 rfl (lv_at hl 1 rfl) ?_
  refine lv_aload_n hx hb dX4_requireCheck_5 rfl (lv_at hl 0 rfl) ?_
  refine kr_get (T := TX4) (N := 7) hx hb hts hown hK (hw.lv 0 0 (rfl : (0 : Nat) = 0)) rfl kin_X4_requireCheck_X4 1 (by decide) (by decide +kernel) rfl dX4_requireCheck_6 ?_
  refine kgo_pi (kc_V (As := []) (rest := [.int (nI r)]) S hE hS hAb (kw_size l hw 1 (by decide)) (cwV 0 hts gX4_requireCheck_Jx4a65c_size_8abf5 rfl rfl rfl (by decide +kernel) ⟨Nat.le_of_ble_eq_true rfl, Nat.le_of_ble_eq_true rfl⟩) (hw.lv 1 1 (by decide : (1 : Nat) < 4)) rfl rfl hl.1 rfl (Nat.le_of_ble_eq_true rfl) dX4_requireCheck_9 ⟨Nat.zero_le _, Nat.zero_le _⟩) hS (fun locs hS => ?_)
  refine lv_icmp_lt (tgt := 25) hx hb dX4_requireCheck_12 (by decide) (fun _ => ?_) (fun hc => absurd (nI_lt h (hB.cnt 1 (by decide))) hc)
  exact kend_v S hr hlocks hS rfl dX4_requireCheck_25
set_option maxHeartbeats 4000000 in
set_option maxRecDepth 100000 in
theorem cx_requireCheck (ε : kEnv) (l : Launch) {A : Nat → Prop} {ad : Nat → Nat → Nat} {σ : kS} {H : Heap} {x : Int32} (hw : kW ε A ad σ H) (hB : kB σ) (hst : l.stackTraces = false) (h : x < 0 ∨ nI (σ 2 0) ≤ x) : kX ε l yX4_requireCheck wsX4_requireCheck ({ frames := 6, cells := 1, slots := 6, locals := 90 }) [.ref (ad 0 0), .int x] H "java/lang/IndexOutOfBoundsException" := by
  refine kofX (cc := cX4_requireCheck) (maxL := 2) (ret := none) (by decide) rfl (Nat.le_of_ble_eq_true rfl) ?_
  intro p e s m below meth c ls S hr hlocks hT hH hE hl
  have S : CallFix p m c cX4_requireCheck 2 s _ wsX4_requireCheck RX4 := S
  have hx := S.1
  have hb := S.2.1
  have hown : s.vm.findClass RX4 = some m.cls := S.2.2.2.1
  have hts := S.2.2.2.2
  have hK := hE.1
  have hS : va_S kNo s.heap H [] := by rw [hH]; exact va_S.rf
  have hAb : ∀ q, kNo q → kHi ε q := fun _ h => h.elim
  have hl : lv_has ls 2 [(0, .ref (ad 0 0)), (1, .int x)] := hl
  refine lv_iload_n hx hb dX4_requireCheck_0 rfl (lv_at hl 1 rfl) ?_
  refine lv_if_lt (tgt := 15) hx hb dX4_requireCheck_1 (by decide) (fun hc1 => ?_) (fun hc1 => ?_)
  · exact kthrow (E := "java/lang/IndexOutOfBoundsException") (names := ["java/lang/RuntimeException", "java/lang/Exception"]) (ik := 101) (is := 171) (ic := 105) (k := 6) hst S hE hT hlocks hS hl.1 (by decide +kernel) (by decide +kernel) (by decide +kernel) rfl (by decide +kernel) (by decide +kernel) (by decide +kernel) dX4_requireCheck_15 dX4_requireCheck_18 dX4_requireCheck_19 dX4_requireCheck_21 dX4_requireCheck_24 (by decide)
  · refine lv_iload_n hx hb dX4_requireCheck_4 rfl (lv_at hl 1 rfl) ?_
    refine lv_aload_n hx hb dX4_requireCheck_5 rfl (lv_at hl 0 rfl) ?_
    refine kr_get (T := TX4) (N := 7) hx hb hts hown hK (hw.lv 0 0 (rfl : (0 : Nat) = 0)) rfl kin_X4_requireCheck_X4 1 (by decide) (by decide +kernel) rfl dX4_requireCheck_6 ?_
    refine kgo_pi (kc_V (As := []) (rest := [.int x]) S hE hS hAb (kw_size l hw 1 (by decide)) (cwV 0 hts gX4_requireCheck_Jx4a65c_size_8abf5 rfl rfl rfl (by decide +kernel) ⟨Nat.le_of_ble_eq_true rfl, Nat.le_of_ble_eq_true rfl⟩) (hw.lv 1 1 (by decide : (1 : Nat) < 4)) rfl rfl hl.1 rfl (Nat.le_of_ble_eq_true rfl) dX4_requireCheck_9 ⟨Nat.zero_le _, Nat.zero_le _⟩) hS (fun locs hS => ?_)
    refine lv_icmp_lt (tgt := 25) hx hb dX4_requireCheck_12 (by decide) (fun hc => absurd hc (Int32.not_lt.mpr (h.resolve_left hc1))) (fun _ => ?_)
    exact kthrow (E := "java/lang/IndexOutOfBoundsException") (names := ["java/lang/RuntimeException", "java/lang/Exception"]) (ik := 101) (is := 171) (ic := 105) (k := 6) hst S hE hT hlocks hS hl.1 (by decide +kernel) (by decide +kernel) (by decide +kernel) rfl (by decide +kernel) (by decide +kernel) (by decide +kernel) dX4_requireCheck_15 dX4_requireCheck_18 dX4_requireCheck_19 dX4_requireCheck_21 dX4_requireCheck_24 (by decide)
theorem kin_X4_requireAlarm_X4 : ∀ w ∈ wsX40, w ∈ wsX4_requireAlarm := by decide +kernel
set_option maxHeartbeats 4000000 in
set_option maxRecDepth 100000 in
theorem cc_requireAlarm (ε : kEnv) (l : Launch) {A : Nat → Prop} {ad : Nat → Nat → Nat} {σ : kS} {H : Heap} {r : Nat} (hw : kW ε A ad σ H) (hB : kB σ) (h : r < σ 4 0) : kPv ε l yX4_requireAlarm wsX4_requireAlarm ({ frames := 1, cells := 0, slots := 0, locals := 20 }) [.ref (ad 0 0), .int (nI r)] H := by
  refine kof (cc := cX4_requireAlarm) (maxL := 2) (ret := none) (by decide) rfl (Nat.le_of_ble_eq_true rfl) ?_
  intro p e s m below meth c ls S hr hlocks hin hH hE hl
  have S : CallFix p m c cX4_requireAlarm 2 s _ wsX4_requireAlarm RX4 := S
  have hx := S.1
  have hb := S.2.1
  have hown : s.vm.findClass RX4 = some m.cls := S.2.2.2.1
  have hts := S.2.2.2.2
  have hK := hE.1
  have hS : va_S kNo s.heap H [] := by rw [hH]; exact va_S.rf
  have hAb : ∀ q, kNo q → kHi ε q := fun _ h => h.elim
  have hl : lv_has ls 2 [(0, .ref (ad 0 0)), (1, .int (nI r))] := hl
  refine lv_iload_n hx hb dX4_requireAlarm_0 rfl (lv_at hl 1 rfl) ?_
  refine lv_if_lt (tgt := 15) hx hb dX4_requireAlarm_1 (by decide) (fun hc => absurd hc (nI_pos (Nat.lt_trans h (hB.cnt 3 (by decide))))) (fun _ => ?_)
  refine lv_iload_n hx hb dX4_requireAlarm_4 rfl (lv_at hl 1 rfl) ?_
  refine lv_aload_n hx hb dX4_requireAlarm_5 rfl (lv_at hl 0 rfl) ?_
  refine kr_get (T := TX4) (N := 7) hx hb hts hown hK (hw.lv 0 0 (rfl : (0 : Nat) = 0)) rfl kin_X4_requireAlarm_X4 3 (by decide) (by decide +kernel) rfl dX4_requireAlarm_6 ?_
  refine kgo_pi (kc_V (As := []) (rest := [.int (nI r)]) S hE hS hAb (kw_size l hw 3 (by decide)) (cwV 0 hts gX4_requireAlarm_Jx4a65c_size_8abf5 rfl rfl rfl (by decide +kernel) ⟨Nat.le_of_ble_eq_true rfl, Nat.le_of_ble_eq_true rfl⟩) (hw.lv 1 3 (by decide : (3 : Nat) < 4)) rfl rfl hl.1 rfl (Nat.le_of_ble_eq_true rfl) dX4_requireAlarm_9 ⟨Nat.zero_le _, Nat.zero_le _⟩) hS (fun locs hS => ?_)
  refine lv_icmp_lt (tgt := 25) hx hb dX4_requireAlarm_12 (by decide) (fun _ => ?_) (fun hc => absurd (nI_lt h (hB.cnt 3 (by decide))) hc)
  exact kend_v S hr hlocks hS rfl dX4_requireAlarm_25
set_option maxHeartbeats 4000000 in
set_option maxRecDepth 100000 in
theorem cx_requireAlarm (ε : kEnv) (l : Launch) {A : Nat → Prop} {ad : Nat → Nat → Nat} {σ : kS} {H : Heap} {x : Int32} (hw : kW ε A ad σ H) (hB : kB σ) (hst : l.stackTraces = false) (h : x < 0 ∨ nI (σ 4 0) ≤ x) : kX ε l yX4_requireAlarm wsX4_requireAlarm ({ frames := 6, cells := 1, slots := 6, locals := 90 }) [.ref (ad 0 0), .int x] H "java/lang/IndexOutOfBoundsException" := by
  refine kofX (cc := cX4_requireAlarm) (maxL := 2) (ret := none) (by decide) rfl (Nat.le_of_ble_eq_true rfl) ?_
  intro p e s m below meth c ls S hr hlocks hT hH hE hl
  have S : CallFix p m c cX4_requireAlarm 2 s _ wsX4_requireAlarm RX4 := S
  have hx := S.1
  have hb := S.2.1
  have hown : s.vm.findClass RX4 = some m.cls := S.2.2.2.1
  have hts := S.2.2.2.2
  have hK := hE.1
  have hS : va_S kNo s.heap H [] := by rw [hH]; exact va_S.rf
  have hAb : ∀ q, kNo q → kHi ε q := fun _ h => h.elim
  have hl : lv_has ls 2 [(0, .ref (ad 0 0)), (1, .int x)] := hl
  refine lv_iload_n hx hb dX4_requireAlarm_0 rfl (lv_at hl 1 rfl) ?_
  refine lv_if_lt (tgt := 15) hx hb dX4_requireAlarm_1 (by decide) (fun hc1 => ?_) (fun hc1 => ?_)
  · exact kthrow (E := "java/lang/IndexOutOfBoundsException") (names := ["java/lang/RuntimeException", "java/lang/Exception"]) (ik := 101) (is := 173) (ic := 105) (k := 7) hst S hE hT hlocks hS hl.1 (by decide +kernel) (by decide +kernel) (by decide +kernel) rfl (by decide +kernel) (by decide +kernel) (by decide +kernel) dX4_requireAlarm_15 dX4_requireAlarm_18 dX4_requireAlarm_19 dX4_requireAlarm_21 dX4_requireAlarm_24 (by decide)
  · refine lv_iload_n hx hb dX4_requireAlarm_4 rfl (lv_at hl 1 rfl) ?_
    refine lv_aload_n hx hb dX4_requireAlarm_5 rfl (lv_at hl 0 rfl) ?_
    refine kr_get (T := TX4) (N := 7) hx hb hts hown hK (hw.lv 0 0 (rfl : (0 : Nat) = 0)) rfl kin_X4_requireAlarm_X4 3 (by decide) (by decide +kernel) rfl dX4_requireAlarm_6 ?_
    refine kgo_pi (kc_V (As := []) (rest := [.int x]) S hE hS hAb (kw_size l hw 3 (by decide)) (cwV 0 hts gX4_requireAlarm_Jx4a65c_size_8abf5 rfl rfl rfl (by decide +kernel) ⟨Nat.le_of_ble_eq_true rfl, Nat.le_of_ble_eq_true rfl⟩) (hw.lv 1 3 (by decide : (3 : Nat) < 4)) rfl rfl hl.1 rfl (Nat.le_of_ble_eq_true rfl) dX4_requireAlarm_9 ⟨Nat.zero_le _, Nat.zero_le _⟩) hS (fun locs hS => ?_)
    refine lv_icmp_lt (tgt := 25) hx hb dX4_requireAlarm_12 (by decide) (fun hc => absurd hc (Int32.not_lt.mpr (h.resolve_left hc1))) (fun _ => ?_)
    exact kthrow (E := "java/lang/IndexOutOfBoundsException") (names := ["java/lang/RuntimeException", "java/lang/Exception"]) (ik := 101) (is := 173) (ic := 105) (k := 7) hst S hE hT hlocks hS hl.1 (by decide +kernel) (by decide +kernel) (by decide +kernel) rfl (by decide +kernel) (by decide +kernel) (by decide +kernel) dX4_requireAlarm_15 dX4_requireAlarm_18 dX4_requireAlarm_19 dX4_requireAlarm_21 dX4_requireAlarm_24 (by decide)
theorem kin_X4_wouldFail_X4 : ∀ w ∈ wsX40, w ∈ wsX4_wouldFail := by decide +kernel
theorem kin_X4_wouldFail_X1 : ∀ w ∈ wsX10, w ∈ wsX4_wouldFail := by decide +kernel
theorem kin_X4_wouldFail_X2 : ∀ w ∈ wsX20, w ∈ wsX4_wouldFail := by decide +kernel
set_option maxHeartbeats 4000000 in
set_option maxRecDepth 100000 in
theorem cc_wouldFail (ε : kEnv) (l : Launch) {A : Nat → Prop} {ad : Nat → Nat → Nat} {σ : kS} {H : Heap} {i r : Nat} (hw : kW ε A ad σ H) (hB : kB σ) (hi : i < σ 2 0) (hr0 : r < σ 1 0) : kPi ε l yX4_wouldFail wsX4_wouldFail ({ frames := 1, cells := 0, slots := 0, locals := 21 }) [.ref (ad 0 0), .ref (ad 4 i), .ref (ad 3 r)] H (bI (kfail σ i r)) := by
  refine kof (cc := cX4_wouldFail) (maxL := 3) (ret := (some .boolean)) (by decide) rfl (Nat.le_of_ble_eq_true rfl) ?_
  intro p e s m below meth c ls S hr hlocks hin hH hE hl
  have S : CallFix p m c cX4_wouldFail 3 s _ wsX4_wouldFail RX4 := S
  have hx := S.1
  have hb := S.2.1
  have hown : s.vm.findClass RX4 = some m.cls := S.2.2.2.1
  have hts := S.2.2.2.2
  have hK := hE.1
  have hS : va_S kNo s.heap H [] := by rw [hH]; exact va_S.rf
  have hAb : ∀ q, kNo q → kHi ε q := fun _ h => h.elim
  have hl : lv_has ls 3 [(0, .ref (ad 0 0)), (1, .ref (ad 4 i)), (2, .ref (ad 3 r))] := hl
  refine lv_aload_n hx hb dX4_wouldFail_0 rfl (lv_at hl 1 rfl) ?_
  refine kr_get (T := TX1) (N := 13) hx hb hts hown hK (hw.lv 4 i hi) rfl kin_X4_wouldFail_X1 5 (by decide) (by decide +kernel) rfl dX4_wouldFail_1 ?_
  refine lv_aload_n hx hb dX4_wouldFail_4 rfl (lv_at hl 2 rfl) ?_
  refine kr_get (T := TX2) (N := 4) hx hb hts hown hK (hw.lv 3 r hr0) rfl kin_X4_wouldFail_X2 0 (by decide) (by decide +kernel) rfl dX4_wouldFail_5 ?_
  refine kgo_pi (kc_S (As := [.int (nI (σ 30 i)), .int (nI r)]) (rest := []) S hE hS hAb (cc_holds ε l (hB.ck i hi).2.2.2.2.2.1 (hB.r6 hr0)) (va_cwS 2 hts gX4_wouldFail_X4_holds rfl rfl rfl (by decide +kernel) ⟨Nat.le_of_ble_eq_true rfl, Nat.le_of_ble_eq_true rfl⟩) rfl hl.1 rfl (Nat.le_of_ble_eq_true rfl) dX4_wouldFail_8 ⟨Nat.zero_le _, Nat.zero_le _⟩) hS (fun locs hS => ?_)
  refine lv_if_ne (tgt := 26) hx hb dX4_wouldFail_11 (by decide) (fun hc => ?_) (fun hc => ?_)
  · refine lv_iconst (v := 1) hx hb dX4_wouldFail_26 (by decide) ?_
    refine lv_goto (tgt := 31) hx hb dX4_wouldFail_27 (by decide) ?_
    refine kend_z S hr hlocks hS ⟨?_, rfl⟩ (Or.inr rfl) dX4_wouldFail_31
    unfold kfail
    rw [bI_ne0.mp hc]
    rfl
  · refine lv_aload_n hx hb dX4_wouldFail_14 rfl (lv_at hl 2 rfl) ?_
    refine kr_get (T := TX2) (N := 4) hx hb hts hown hK (hw.lv 3 r hr0) rfl kin_X4_wouldFail_X2 1 (by decide) (by decide +kernel) rfl dX4_wouldFail_15 ?_
    refine lv_aload_n hx hb dX4_wouldFail_18 rfl (lv_at hl 0 rfl) ?_
    refine kr_get (T := TX4) (N := 7) hx hb hts hown hK (hw.lv 0 0 (rfl : (0 : Nat) = 0)) rfl kin_X4_wouldFail_X4 4 (by decide) (by decide +kernel) rfl dX4_wouldFail_19 ?_
    refine lv_iand hx hb dX4_wouldFail_22 ?_
    refine lv_if_eq (tgt := 30) hx hb dX4_wouldFail_23 (by decide) (fun hc2 => ?_) (fun hc2 => ?_)
    · refine lv_iconst (v := 0) hx hb dX4_wouldFail_30 (by decide) ?_
      refine kend_z S hr hlocks hS ⟨?_, rfl⟩ (Or.inl rfl) dX4_wouldFail_31
      have h1 := (kb_meet _ (hB.rg r hr0).1 _ hB.cut).mp hc2
      unfold kfail
      rw [bI_eq0.mp hc, h1]
      rfl
    · refine lv_iconst (v := 1) hx hb dX4_wouldFail_26 (by decide) ?_
      refine lv_goto (tgt := 31) hx hb dX4_wouldFail_27 (by decide) ?_
      refine kend_z S hr hlocks hS ⟨?_, rfl⟩ (Or.inr rfl) dX4_wouldFail_31
      have h1 : (σ 11 r &&& σ 14 0) ≠ 0 := fun h => hc2 ((kb_meet _ (hB.rg r hr0).1 _ hB.cut).mpr h)
      unfold kfail
      rw [bI_eq0.mp hc, show ((σ 11 r &&& σ 14 0) != 0) = true by simpa using h1]
      rfl
theorem kin_X1_nextMinuteFrom_X1 : ∀ w ∈ wsX10, w ∈ wsX1_nextMinuteFrom := by decide +kernel
theorem kin_X1_isDue_X1 : ∀ w ∈ wsX10, w ∈ wsX1_isDue := by decide +kernel
set_option maxHeartbeats 4000000 in
set_option maxRecDepth 100000 in
theorem cc_next (ε : kEnv) (l : Launch) {A : Nat → Prop} {ad : Nat → Nat → Nat} {σ : kS} {H : Heap} {i r t : Nat} (hw : kW ε A ad σ H) (hB : kB σ) (hi : i < σ 2 0) (hr6 : r < 6) (ht : t ≤ 200000) : kPi ε l yX1_nextMinuteFrom wsX1_nextMinuteFrom ({ frames := 0, cells := 0, slots := 0, locals := 0 }) [.ref (ad 4 i), .int (nI r), .int (nI t)] H (nI (kNext σ i r t)) := by
  refine kof (cc := cX1_nextMinuteFrom) (maxL := 5) (ret := (some .int)) (by decide) rfl (Nat.le_of_ble_eq_true rfl) ?_
  intro p e s m below meth c ls S hr hlocks hin hH hE hl
  have S : CallFix p m c cX1_nextMinuteFrom 5 s _ wsX1_nextMinuteFrom RX1 := S
  have hx := S.1
  have hb := S.2.1
  have hown : s.vm.findClass RX1 = some m.cls := S.2.2.2.1
  have hts := S.2.2.2.2
  have hK := hE.1
  have hS : va_S kNo s.heap H [] := by rw [hH]; exact va_S.rf
  have hAb : ∀ q, kNo q → kHi ε q := fun _ h => h.elim
  have hl : lv_has ls 5 [(0, .ref (ad 4 i)), (1, .int (nI r)), (2, .int (nI t))] := hl
  have hk := hB.ck i hi
  have hp := hB.pr i r hi hr6
  refine lv_aload_n hx hb dX1_nextMinuteFrom_0 rfl (lv_at hl 0 rfl) ?_
  refine kr_get (T := TX1) (N := 13) hx hb hts hown hK (hw.lv 4 i hi) rfl kin_X1_nextMinuteFrom_X1 7 (by decide) (by decide +kernel) rfl dX1_nextMinuteFrom_1 ?_
  refine lv_iload_n hx hb dX1_nextMinuteFrom_4 rfl (lv_at hl 1 rfl) ?_
  refine kr_ild hx hb hK (hw.lv 6 i hi) (j := r) hr6 (nI_clamp (ks31 hr6)) (nI_pos (ks31 hr6)) (x := nI (σ 32 (6 * i + r))) rfl dX1_nextMinuteFrom_5 ?_
  refine lv_if_eq (tgt := 16) hx hb dX1_nextMinuteFrom_6 (by decide) (fun hc => ?_) (fun hc => ?_)
  · have hz : σ 32 (6 * i + r) = 0 := (nI_eq (by omega) (by decide)).mp hc
    refine lv_aload_n hx hb dX1_nextMinuteFrom_16 rfl (lv_at hl 0 rfl) ?_
    refine kr_get (T := TX1) (N := 13) hx hb hts hown hK (hw.lv 4 i hi) rfl kin_X1_nextMinuteFrom_X1 2 (by decide) (by decide +kernel) rfl dX1_nextMinuteFrom_17 ?_
    refine lv_iload_n hx hb dX1_nextMinuteFrom_20 rfl (lv_at hl 1 rfl) ?_
    refine lv_iadd hx hb dX1_nextMinuteFrom_21 ?_
    refine kr_top (y := nI (σ 21 i + r)) (nI_add _ _) ?_
    refine lv_istore_n (lv' := [(3, .int (nI (σ 21 i + r))), (0, .ref (ad 4 i)), (1, .int (nI r)), (2, .int (nI t))]) hx hb dX1_nextMinuteFrom_22 rfl hl (by decide) rfl (fun ls hl => ?_)
    refine lv_iload_n hx hb dX1_nextMinuteFrom_23 rfl (lv_at hl 3 rfl) ?_
    refine lv_iload_n hx hb dX1_nextMinuteFrom_24 rfl (lv_at hl 0 rfl) ?_
    refine lv_icmp_gt (tgt := 30) hx hb dX1_nextMinuteFrom_25 (by decide) (fun hc2 => ?_) (fun hc2 => ?_)
    · have hle : ¬ t ≤ σ 21 i + r := fun h => absurd hc2 (nI_nlt h (by omega))
      refine lv_iload_n hx hb dX1_nextMinuteFrom_30 rfl (lv_at hl 3 rfl) ?_
      refine lv_iload_n hx hb dX1_nextMinuteFrom_31 rfl (lv_at hl 0 rfl) ?_
      refine lv_isub hx hb dX1_nextMinuteFrom_32 ?_
      refine kr_top (y := nI (t - (σ 21 i + r))) (pk_sub (by omega)) ?_
      refine lv_aload_n hx hb dX1_nextMinuteFrom_33 rfl (lv_at hl 1 rfl) ?_
      refine kr_get (T := TX1) (N := 13) hx hb hts hown hK (hw.lv 4 i hi) rfl kin_X1_nextMinuteFrom_X1 1 (by decide) (by decide +kernel) rfl dX1_nextMinuteFrom_34 ?_
      refine lv_irem hx hb dX1_nextMinuteFrom_37 (nI_ne0 (by omega) (by omega)) ?_
      refine kr_top (y := nI ((t - (σ 21 i + r)) % σ 20 i)) (pk_rem (by omega) (by omega) (by omega)) ?_
      have hlt := Nat.mod_lt (t - (σ 21 i + r)) (show 0 < σ 20 i by omega)
      refine lv_istore (lv' := [(4, .int (nI ((t - (σ 21 i + r)) % σ 20 i))), (3, .int (nI (σ 21 i + r))), (0, .ref (ad 4 i)), (1, .int (nI r)), (2, .int (nI t))]) hx hb dX1_nextMinuteFrom_38 hl (by decide) rfl (fun ls hl => ?_)
      refine lv_iload hx hb dX1_nextMinuteFrom_40 (lv_at hl 0 rfl) ?_
      refine lv_if_ne (tgt := 49) hx hb dX1_nextMinuteFrom_42 (by decide) (fun hc3 => ?_) (fun hc3 => ?_)
      · refine lv_iload_n hx hb dX1_nextMinuteFrom_49 rfl (lv_at hl 4 rfl) ?_
        refine lv_aload_n hx hb dX1_nextMinuteFrom_50 rfl (lv_at hl 2 rfl) ?_
        refine kr_get (T := TX1) (N := 13) hx hb hts hown hK (hw.lv 4 i hi) rfl kin_X1_nextMinuteFrom_X1 1 (by decide) (by decide +kernel) rfl dX1_nextMinuteFrom_51 ?_
        refine lv_iadd hx hb dX1_nextMinuteFrom_54 ?_
        refine lv_iload hx hb dX1_nextMinuteFrom_55 (lv_at hl 0 rfl) ?_
        refine lv_isub hx hb dX1_nextMinuteFrom_57 ?_
        have hne : ¬ (t - (σ 21 i + r)) % σ 20 i = 0 := fun h => hc3 ((nI_eq (by omega) (by decide)).mpr h)
        refine kend_i S hr hlocks hS ⟨?_, rfl⟩ dX1_nextMinuteFrom_58
        unfold kNext
        rw [if_neg (fun h => h hz), if_neg hle, if_neg hne, nI_add, pk_sub (by omega)]
      · refine lv_iload_n hx hb dX1_nextMinuteFrom_45 rfl (lv_at hl 4 rfl) ?_
        refine lv_goto (tgt := 58) hx hb dX1_nextMinuteFrom_46 (by decide) ?_
        have heq : (t - (σ 21 i + r)) % σ 20 i = 0 := (nI_eq (by omega) (by decide)).mp hc3
        refine kend_i S hr hlocks hS ⟨?_, rfl⟩ dX1_nextMinuteFrom_58
        unfold kNext
        rw [if_neg (fun h => h hz), if_neg hle, if_pos heq]
    · have hle : t ≤ σ 21 i + r := by
        rcases Nat.lt_or_ge (σ 21 i + r) t with h | h
        · exact absurd (nI_lt h (by omega)) hc2
        · exact h
      refine lv_iload_n hx hb dX1_nextMinuteFrom_28 rfl (lv_at hl 0 rfl) ?_
      refine kend_i S hr hlocks hS ⟨?_, rfl⟩ dX1_nextMinuteFrom_29
      unfold kNext
      rw [if_neg (fun h => h hz), if_pos hle]
  · have hz : ¬ σ 32 (6 * i + r) = 0 := fun h => hc ((nI_eq (by omega) (by decide)).mpr h)
    refine lv_aload_n hx hb dX1_nextMinuteFrom_9 rfl (lv_at hl 0 rfl) ?_
    refine kr_get (T := TX1) (N := 13) hx hb hts hown hK (hw.lv 4 i hi) rfl kin_X1_nextMinuteFrom_X1 8 (by decide) (by decide +kernel) rfl dX1_nextMinuteFrom_10 ?_
    refine lv_iload_n hx hb dX1_nextMinuteFrom_13 rfl (lv_at hl 1 rfl) ?_
    refine kr_ild hx hb hK (hw.lv 7 i hi) (j := r) hr6 (nI_clamp (ks31 hr6)) (nI_pos (ks31 hr6)) (x := nI (σ 33 (6 * i + r))) rfl dX1_nextMinuteFrom_14 ?_
    refine kend_i S hr hlocks hS ⟨?_, rfl⟩ dX1_nextMinuteFrom_15
    unfold kNext
    rw [if_pos hz]
set_option maxHeartbeats 4000000 in
set_option maxRecDepth 100000 in
theorem cc_isDue (ε : kEnv) (l : Launch) {A : Nat → Prop} {ad : Nat → Nat → Nat} {σ : kS} {H : Heap} {i r t : Nat} (hw : kW ε A ad σ H) (hB : kB σ) (hi : i < σ 2 0) (hr6 : r < 6) (ht : t ≤ 200000) : kPi ε l yX1_isDue wsX1_isDue ({ frames := 1, cells := 0, slots := 0, locals := 24 }) [.ref (ad 4 i), .int (nI r), .int (nI t)] H (bI (kNext σ i r t == t)) := by
  refine kof (cc := cX1_isDue) (maxL := 3) (ret := (some .boolean)) (by decide) rfl (Nat.le_of_ble_eq_true rfl) ?_
  intro p e s m below meth c ls S hr hlocks hin hH hE hl
  have S : CallFix p m c cX1_isDue 3 s _ wsX1_isDue RX1 := S
  have hx := S.1
  have hb := S.2.1
  have hown : s.vm.findClass RX1 = some m.cls := S.2.2.2.1
  have hts := S.2.2.2.2
  have hK := hE.1
  have hS : va_S kNo s.heap H [] := by rw [hH]; exact va_S.rf
  have hAb : ∀ q, kNo q → kHi ε q := fun _ h => h.elim
  have hl : lv_has ls 3 [(0, .ref (ad 4 i)), (1, .int (nI r)), (2, .int (nI t))] := hl
  refine lv_aload_n hx hb dX1_isDue_0 rfl (lv_at hl 0 rfl) ?_
  refine lv_iload_n hx hb dX1_isDue_1 rfl (lv_at hl 1 rfl) ?_
  refine lv_iload_n hx hb dX1_isDue_2 rfl (lv_at hl 2 rfl) ?_
  refine kgo_pi (kc_V (As := [.int (nI r), .int (nI t)]) (rest := []) S hE hS hAb (cc_next ε l hw hB hi hr6 ht) (cwV 2 hts gX1_isDue_X1_nextMinuteFrom rfl rfl rfl (by decide +kernel) ⟨Nat.le_of_ble_eq_true rfl, Nat.le_of_ble_eq_true rfl⟩) (hw.lv 4 i hi) rfl rfl hl.1 rfl (Nat.le_of_ble_eq_true rfl) dX1_isDue_3 ⟨Nat.zero_le _, Nat.zero_le _⟩) hS (fun locs hS => ?_)
  refine lv_iload_n hx hb dX1_isDue_6 rfl (lv_at hl 2 rfl) ?_
  have h31 : kNext σ i r t < 2 ^ 31 := kNext_lt hB hi hr6 ht
  refine lv_icmp_ne (tgt := 14) hx hb dX1_isDue_7 (by decide) (fun hc => ?_) (fun hc => ?_)
  · refine lv_iconst (v := 0) hx hb dX1_isDue_14 (by decide) ?_
    refine kend_z S hr hlocks hS ⟨?_, rfl⟩ (Or.inl rfl) dX1_isDue_15
    have h1 : ¬ kNext σ i r t = t := fun h => hc ((nI_eq h31 (by omega)).mpr h)
    rw [show (kNext σ i r t == t) = false by simpa using h1]
    rfl
  · refine lv_iconst (v := 1) hx hb dX1_isDue_10 (by decide) ?_
    refine lv_goto (tgt := 15) hx hb dX1_isDue_11 (by decide) ?_
    refine kend_z S hr hlocks hS ⟨?_, rfl⟩ (Or.inr rfl) dX1_isDue_15
    have h1 : kNext σ i r t = t := (nI_eq h31 (by omega)).mp hc
    rw [show (kNext σ i r t == t) = true by simpa using h1]
    rfl
