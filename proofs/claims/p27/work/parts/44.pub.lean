/-! ===== the public methods that read ===== -/
def kFm (σ : kS) (c : Nat) : Nat → Nat
  | 0 => 0
  | n + 1 => kwr (kFm σ c n) n (kfail σ c n)
theorem kFm_lt (σ : kS) (c : Nat) : ∀ n, n ≤ 6 → kFm σ c n < 64 := by
  intro n
  induction n with
  | zero => exact fun _ => (show (0 : Nat) < 64 by decide)
  | succ n ih => exact fun hn => kwr_lt n hn _ (ih (Nat.le_of_succ_le hn)) _
theorem kin_X4_minute_X4 : ∀ w ∈ wsX40, w ∈ wsX4_minute := by decide +kernel
set_option maxHeartbeats 4000000 in
set_option maxRecDepth 100000 in
theorem cp_minute (ε : kEnv) (l : Launch) {A : Nat → Prop} {ad : Nat → Nat → Nat} {σ : kS} {H : Heap} (hw : kW ε A ad σ H) (hB : kB σ) : kPi ε l yX4_minute wsX4_minute ({ frames := 5, cells := 0, slots := 0, locals := 120 }) [.ref (ad 0 0)] H (nI (σ 0 0)) := by
  refine kof (cc := cX4_minute) (maxL := 1) (ret := (some .int)) (by decide) rfl (Nat.le_of_ble_eq_true rfl) ?_
  intro p e s m below meth c ls S hr hlocks hin hH hE hl
  have S : CallFix p m c cX4_minute 1 s _ wsX4_minute RX4 := S
  have hx := S.1
  have hb := S.2.1
  have hown : s.vm.findClass RX4 = some m.cls := S.2.2.2.1
  have hts := S.2.2.2.2
  have hK := hE.1
  have hS : va_S kNo s.heap H [] := by rw [hH]; exact va_S.rf
  have hAb : ∀ q, kNo q → kHi ε q := fun _ h => h.elim
  have hnR := hB.nR
  have hnC := hB.nC
  have hnW := hB.nW
  have hnA := hB.nA
  have hmn := hB.min
  have hl : lv_has ls 1 [(0, .ref (ad 0 0))] := hl
  refine lv_aload_n hx hb dX4_minute_0 rfl (lv_at hl 0 rfl) ?_
  refine kr_get (T := TX4) (N := 7) hx hb hts hown hK (hw.lv 0 0 (rfl : (0 : Nat) = 0)) rfl kin_X4_minute_X4 6 (by decide) (by decide +kernel) rfl dX4_minute_1 ?_
  refine kend_i S hr hlocks hS ⟨rfl, rfl⟩ dX4_minute_4
theorem kin_X4_alarms_X4 : ∀ w ∈ wsX40, w ∈ wsX4_alarms := by decide +kernel
set_option maxHeartbeats 4000000 in
set_option maxRecDepth 100000 in
theorem cp_alarms (ε : kEnv) (l : Launch) {A : Nat → Prop} {ad : Nat → Nat → Nat} {σ : kS} {H : Heap} (hw : kW ε A ad σ H) (hB : kB σ) : kPi ε l yX4_alarms wsX4_alarms ({ frames := 5, cells := 0, slots := 0, locals := 120 }) [.ref (ad 0 0)] H (nI (σ 4 0)) := by
  refine kof (cc := cX4_alarms) (maxL := 1) (ret := (some .int)) (by decide) rfl (Nat.le_of_ble_eq_true rfl) ?_
  intro p e s m below meth c ls S hr hlocks hin hH hE hl
  have S : CallFix p m c cX4_alarms 1 s _ wsX4_alarms RX4 := S
  have hx := S.1
  have hb := S.2.1
  have hown : s.vm.findClass RX4 = some m.cls := S.2.2.2.1
  have hts := S.2.2.2.2
  have hK := hE.1
  have hS : va_S kNo s.heap H [] := by rw [hH]; exact va_S.rf
  have hAb : ∀ q, kNo q → kHi ε q := fun _ h => h.elim
  have hnR := hB.nR
  have hnC := hB.nC
  have hnW := hB.nW
  have hnA := hB.nA
  have hmn := hB.min
  have hl : lv_has ls 1 [(0, .ref (ad 0 0))] := hl
  refine lv_aload_n hx hb dX4_alarms_0 rfl (lv_at hl 0 rfl) ?_
  refine kr_get (T := TX4) (N := 7) hx hb hts hown hK (hw.lv 0 0 (rfl : (0 : Nat) = 0)) rfl kin_X4_alarms_X4 3 (by decide) (by decide +kernel) rfl dX4_alarms_1 ?_
  refine kgo_pi (v := nI (σ 4 0)) (kc_V (As := []) (rest := []) S hE hS hAb (kw_size l hw 3 (by decide)) (cwV 0 hts gX4_alarms_Jx4a65c_size_8abf5 rfl rfl rfl (by decide +kernel) ⟨Nat.le_of_ble_eq_true rfl, Nat.le_of_ble_eq_true rfl⟩) (hw.lv 1 3 (by decide : (3 : Nat) < 4)) rfl rfl hl.1 rfl (Nat.le_of_ble_eq_true rfl) dX4_alarms_4 ⟨Nat.zero_le _, Nat.zero_le _⟩) hS (fun locs hS => ?_)
  refine kend_i S hr hlocks hS ⟨rfl, rfl⟩ dX4_alarms_7
theorem kin_X4_probes_X4 : ∀ w ∈ wsX40, w ∈ wsX4_probes := by decide +kernel
theorem kin_X4_probes_X2 : ∀ w ∈ wsX20, w ∈ wsX4_probes := by decide +kernel
set_option maxHeartbeats 4000000 in
set_option maxRecDepth 100000 in
theorem cp_probes (ε : kEnv) (l : Launch) {A : Nat → Prop} {ad : Nat → Nat → Nat} {σ : kS} {H : Heap} {i : Nat} (hw : kW ε A ad σ H) (hB : kB σ) (hc0 : i < σ 1 0) : kPi ε l yX4_probes wsX4_probes ({ frames := 5, cells := 0, slots := 0, locals := 120 }) [.ref (ad 0 0), .int (nI i)] H (nI (σ 12 i)) := by
  refine kof (cc := cX4_probes) (maxL := 2) (ret := (some .int)) (by decide) rfl (Nat.le_of_ble_eq_true rfl) ?_
  intro p e s m below meth c ls S hr hlocks hin hH hE hl
  have S : CallFix p m c cX4_probes 2 s _ wsX4_probes RX4 := S
  have hx := S.1
  have hb := S.2.1
  have hown : s.vm.findClass RX4 = some m.cls := S.2.2.2.1
  have hts := S.2.2.2.2
  have hK := hE.1
  have hS : va_S kNo s.heap H [] := by rw [hH]; exact va_S.rf
  have hAb : ∀ q, kNo q → kHi ε q := fun _ h => h.elim
  have hnR := hB.nR
  have hnC := hB.nC
  have hnW := hB.nW
  have hnA := hB.nA
  have hmn := hB.min
  have hl : lv_has ls 2 [(0, .ref (ad 0 0)), (1, .int (nI i))] := hl
  refine lv_aload_n hx hb dX4_probes_0 rfl (lv_at hl 0 rfl) ?_
  refine lv_iload_n hx hb dX4_probes_1 rfl (lv_at hl 1 rfl) ?_
  refine kgo_pv (kc_V (As := [.int (nI i)]) (rest := []) S hE hS hAb (cc_requireRegion ε l hw hB hc0) (cwV 1 hts gX4_probes_X4_requireRegion rfl rfl rfl (by decide +kernel) ⟨Nat.le_of_ble_eq_true rfl, Nat.le_of_ble_eq_true rfl⟩) (hw.lv 0 0 (rfl : (0 : Nat) = 0)) rfl rfl hl.1 rfl (Nat.le_of_ble_eq_true rfl) dX4_probes_2 ⟨Nat.zero_le _, Nat.zero_le _⟩) hS (fun locs hS => ?_)
  refine lv_aload_n hx hb dX4_probes_5 rfl (lv_at hl 0 rfl) ?_
  refine kr_get (T := TX4) (N := 7) hx hb hts hown hK (hw.lv 0 0 (rfl : (0 : Nat) = 0)) rfl kin_X4_probes_X4 0 (by decide) (by decide +kernel) rfl dX4_probes_6 ?_
  refine lv_iload_n hx hb dX4_probes_9 rfl (lv_at hl 1 rfl) ?_
  refine kgo_pr (v := ad 3 i) (kc_V (As := [.int (nI i)]) (rest := []) S hE hS hAb (kw_get l hw hB 0 (by decide) (j := i) (x := ad 3 i) hc0 rfl) (cwV 1 hts gX4_probes_Jx4a65c_get_915e3 rfl rfl rfl (by decide +kernel) ⟨Nat.le_of_ble_eq_true rfl, Nat.le_of_ble_eq_true rfl⟩) (hw.lv 1 0 (by decide : (0 : Nat) < 4)) rfl rfl hl.1 rfl (Nat.le_of_ble_eq_true rfl) dX4_probes_10 ⟨Nat.zero_le _, Nat.zero_le _⟩) hS (fun locs hS => ?_)
  refine kr_cast (T := TX2) (N := 4) hx hb hts hown hK (hw.lv 3 i hc0) rfl (by decide +kernel) dX4_probes_13 ?_
  refine kr_get (T := TX2) (N := 4) hx hb hts hown hK (hw.lv 3 i hc0) rfl kin_X4_probes_X2 2 (by decide) (by decide +kernel) rfl dX4_probes_16 ?_
  refine kend_i S hr hlocks hS ⟨rfl, rfl⟩ dX4_probes_19
set_option maxHeartbeats 4000000 in
set_option maxRecDepth 100000 in
theorem cpx_probes (ε : kEnv) (l : Launch) {A : Nat → Prop} {ad : Nat → Nat → Nat} {σ : kS} {H : Heap} {x : Int32} (hw : kW ε A ad σ H) (hB : kB σ) (hst : l.stackTraces = false) (h : x < 0 ∨ nI (σ 1 0) ≤ x) : kX ε l yX4_probes wsX4_probes ({ frames := 7, cells := 1, slots := 6, locals := 120 }) [.ref (ad 0 0), .int x] H "java/lang/IndexOutOfBoundsException" := by
  refine kofX (cc := cX4_probes) (maxL := 2) (ret := (some .int)) (by decide) rfl (Nat.le_of_ble_eq_true rfl) ?_
  intro p e s m below meth c ls S hr hlocks hT hH hE hl
  have S : CallFix p m c cX4_probes 2 s _ wsX4_probes RX4 := S
  have hx := S.1
  have hb := S.2.1
  have hown : s.vm.findClass RX4 = some m.cls := S.2.2.2.1
  have hts := S.2.2.2.2
  have hK := hE.1
  have hS : va_S kNo s.heap H [] := by rw [hH]; exact va_S.rf
  have hAb : ∀ q, kNo q → kHi ε q := fun _ h => h.elim
  have hnR := hB.nR
  have hnC := hB.nC
  have hnW := hB.nW
  have hnA := hB.nA
  have hmn := hB.min
  have hl : lv_has ls 2 [(0, .ref (ad 0 0)), (1, .int x)] := hl
  refine lv_aload_n hx hb dX4_probes_0 rfl (lv_at hl 0 rfl) ?_
  refine lv_iload_n hx hb dX4_probes_1 rfl (lv_at hl 1 rfl) ?_
  exact kthru hT hlocks hH (kx_V (As := [.int x]) (rest := []) S hE hS hAb (cx_requireRegion ε l hw hB hst h) (cwV 1 hts gX4_probes_X4_requireRegion rfl rfl rfl (by decide +kernel) ⟨Nat.le_of_ble_eq_true rfl, Nat.le_of_ble_eq_true rfl⟩) (hw.lv 0 0 (rfl : (0 : Nat) = 0)) rfl rfl hl.1 rfl (Nat.le_of_ble_eq_true rfl) dX4_probes_2 ⟨Nat.le_refl _, Nat.le_refl _⟩) hS
theorem kin_X4_failures_X4 : ∀ w ∈ wsX40, w ∈ wsX4_failures := by decide +kernel
theorem kin_X4_failures_X2 : ∀ w ∈ wsX20, w ∈ wsX4_failures := by decide +kernel
set_option maxHeartbeats 4000000 in
set_option maxRecDepth 100000 in
theorem cp_failures (ε : kEnv) (l : Launch) {A : Nat → Prop} {ad : Nat → Nat → Nat} {σ : kS} {H : Heap} {i : Nat} (hw : kW ε A ad σ H) (hB : kB σ) (hc0 : i < σ 1 0) : kPi ε l yX4_failures wsX4_failures ({ frames := 5, cells := 0, slots := 0, locals := 120 }) [.ref (ad 0 0), .int (nI i)] H (nI (σ 13 i)) := by
  refine kof (cc := cX4_failures) (maxL := 2) (ret := (some .int)) (by decide) rfl (Nat.le_of_ble_eq_true rfl) ?_
  intro p e s m below meth c ls S hr hlocks hin hH hE hl
  have S : CallFix p m c cX4_failures 2 s _ wsX4_failures RX4 := S
  have hx := S.1
  have hb := S.2.1
  have hown : s.vm.findClass RX4 = some m.cls := S.2.2.2.1
  have hts := S.2.2.2.2
  have hK := hE.1
  have hS : va_S kNo s.heap H [] := by rw [hH]; exact va_S.rf
  have hAb : ∀ q, kNo q → kHi ε q := fun _ h => h.elim
  have hnR := hB.nR
  have hnC := hB.nC
  have hnW := hB.nW
  have hnA := hB.nA
  have hmn := hB.min
  have hl : lv_has ls 2 [(0, .ref (ad 0 0)), (1, .int (nI i))] := hl
  refine lv_aload_n hx hb dX4_failures_0 rfl (lv_at hl 0 rfl) ?_
  refine lv_iload_n hx hb dX4_failures_1 rfl (lv_at hl 1 rfl) ?_
  refine kgo_pv (kc_V (As := [.int (nI i)]) (rest := []) S hE hS hAb (cc_requireRegion ε l hw hB hc0) (cwV 1 hts gX4_failures_X4_requireRegion rfl rfl rfl (by decide +kernel) ⟨Nat.le_of_ble_eq_true rfl, Nat.le_of_ble_eq_true rfl⟩) (hw.lv 0 0 (rfl : (0 : Nat) = 0)) rfl rfl hl.1 rfl (Nat.le_of_ble_eq_true rfl) dX4_failures_2 ⟨Nat.zero_le _, Nat.zero_le _⟩) hS (fun locs hS => ?_)
  refine lv_aload_n hx hb dX4_failures_5 rfl (lv_at hl 0 rfl) ?_
  refine kr_get (T := TX4) (N := 7) hx hb hts hown hK (hw.lv 0 0 (rfl : (0 : Nat) = 0)) rfl kin_X4_failures_X4 0 (by decide) (by decide +kernel) rfl dX4_failures_6 ?_
  refine lv_iload_n hx hb dX4_failures_9 rfl (lv_at hl 1 rfl) ?_
  refine kgo_pr (v := ad 3 i) (kc_V (As := [.int (nI i)]) (rest := []) S hE hS hAb (kw_get l hw hB 0 (by decide) (j := i) (x := ad 3 i) hc0 rfl) (cwV 1 hts gX4_failures_Jx4a65c_get_915e3 rfl rfl rfl (by decide +kernel) ⟨Nat.le_of_ble_eq_true rfl, Nat.le_of_ble_eq_true rfl⟩) (hw.lv 1 0 (by decide : (0 : Nat) < 4)) rfl rfl hl.1 rfl (Nat.le_of_ble_eq_true rfl) dX4_failures_10 ⟨Nat.zero_le _, Nat.zero_le _⟩) hS (fun locs hS => ?_)
  refine kr_cast (T := TX2) (N := 4) hx hb hts hown hK (hw.lv 3 i hc0) rfl (by decide +kernel) dX4_failures_13 ?_
  refine kr_get (T := TX2) (N := 4) hx hb hts hown hK (hw.lv 3 i hc0) rfl kin_X4_failures_X2 3 (by decide) (by decide +kernel) rfl dX4_failures_16 ?_
  refine kend_i S hr hlocks hS ⟨rfl, rfl⟩ dX4_failures_19
set_option maxHeartbeats 4000000 in
set_option maxRecDepth 100000 in
theorem cpx_failures (ε : kEnv) (l : Launch) {A : Nat → Prop} {ad : Nat → Nat → Nat} {σ : kS} {H : Heap} {x : Int32} (hw : kW ε A ad σ H) (hB : kB σ) (hst : l.stackTraces = false) (h : x < 0 ∨ nI (σ 1 0) ≤ x) : kX ε l yX4_failures wsX4_failures ({ frames := 7, cells := 1, slots := 6, locals := 120 }) [.ref (ad 0 0), .int x] H "java/lang/IndexOutOfBoundsException" := by
  refine kofX (cc := cX4_failures) (maxL := 2) (ret := (some .int)) (by decide) rfl (Nat.le_of_ble_eq_true rfl) ?_
  intro p e s m below meth c ls S hr hlocks hT hH hE hl
  have S : CallFix p m c cX4_failures 2 s _ wsX4_failures RX4 := S
  have hx := S.1
  have hb := S.2.1
  have hown : s.vm.findClass RX4 = some m.cls := S.2.2.2.1
  have hts := S.2.2.2.2
  have hK := hE.1
  have hS : va_S kNo s.heap H [] := by rw [hH]; exact va_S.rf
  have hAb : ∀ q, kNo q → kHi ε q := fun _ h => h.elim
  have hnR := hB.nR
  have hnC := hB.nC
  have hnW := hB.nW
  have hnA := hB.nA
  have hmn := hB.min
  have hl : lv_has ls 2 [(0, .ref (ad 0 0)), (1, .int x)] := hl
  refine lv_aload_n hx hb dX4_failures_0 rfl (lv_at hl 0 rfl) ?_
  refine lv_iload_n hx hb dX4_failures_1 rfl (lv_at hl 1 rfl) ?_
  exact kthru hT hlocks hH (kx_V (As := [.int x]) (rest := []) S hE hS hAb (cx_requireRegion ε l hw hB hst h) (cwV 1 hts gX4_failures_X4_requireRegion rfl rfl rfl (by decide +kernel) ⟨Nat.le_of_ble_eq_true rfl, Nat.le_of_ble_eq_true rfl⟩) (hw.lv 0 0 (rfl : (0 : Nat) = 0)) rfl rfl hl.1 rfl (Nat.le_of_ble_eq_true rfl) dX4_failures_2 ⟨Nat.le_refl _, Nat.le_refl _⟩) hS
theorem kin_X4_verdict_X4 : ∀ w ∈ wsX40, w ∈ wsX4_verdict := by decide +kernel
theorem kin_X4_verdict_X1 : ∀ w ∈ wsX10, w ∈ wsX4_verdict := by decide +kernel
set_option maxHeartbeats 4000000 in
set_option maxRecDepth 100000 in
theorem cp_verdict (ε : kEnv) (l : Launch) {A : Nat → Prop} {ad : Nat → Nat → Nat} {σ : kS} {H : Heap} {i : Nat} (hw : kW ε A ad σ H) (hB : kB σ) (hc0 : i < σ 2 0) : kPi ε l yX4_verdict wsX4_verdict ({ frames := 5, cells := 0, slots := 0, locals := 120 }) [.ref (ad 0 0), .int (nI i)] H (nI (σ 24 i)) := by
  refine kof (cc := cX4_verdict) (maxL := 2) (ret := (some .int)) (by decide) rfl (Nat.le_of_ble_eq_true rfl) ?_
  intro p e s m below meth c ls S hr hlocks hin hH hE hl
  have S : CallFix p m c cX4_verdict 2 s _ wsX4_verdict RX4 := S
  have hx := S.1
  have hb := S.2.1
  have hown : s.vm.findClass RX4 = some m.cls := S.2.2.2.1
  have hts := S.2.2.2.2
  have hK := hE.1
  have hS : va_S kNo s.heap H [] := by rw [hH]; exact va_S.rf
  have hAb : ∀ q, kNo q → kHi ε q := fun _ h => h.elim
  have hnR := hB.nR
  have hnC := hB.nC
  have hnW := hB.nW
  have hnA := hB.nA
  have hmn := hB.min
  have hl : lv_has ls 2 [(0, .ref (ad 0 0)), (1, .int (nI i))] := hl
  refine lv_aload_n hx hb dX4_verdict_0 rfl (lv_at hl 0 rfl) ?_
  refine lv_iload_n hx hb dX4_verdict_1 rfl (lv_at hl 1 rfl) ?_
  refine kgo_pv (kc_V (As := [.int (nI i)]) (rest := []) S hE hS hAb (cc_requireCheck ε l hw hB hc0) (cwV 1 hts gX4_verdict_X4_requireCheck rfl rfl rfl (by decide +kernel) ⟨Nat.le_of_ble_eq_true rfl, Nat.le_of_ble_eq_true rfl⟩) (hw.lv 0 0 (rfl : (0 : Nat) = 0)) rfl rfl hl.1 rfl (Nat.le_of_ble_eq_true rfl) dX4_verdict_2 ⟨Nat.zero_le _, Nat.zero_le _⟩) hS (fun locs hS => ?_)
  refine lv_aload_n hx hb dX4_verdict_5 rfl (lv_at hl 0 rfl) ?_
  refine kr_get (T := TX4) (N := 7) hx hb hts hown hK (hw.lv 0 0 (rfl : (0 : Nat) = 0)) rfl kin_X4_verdict_X4 1 (by decide) (by decide +kernel) rfl dX4_verdict_6 ?_
  refine lv_iload_n hx hb dX4_verdict_9 rfl (lv_at hl 1 rfl) ?_
  refine kgo_pr (v := ad 4 i) (kc_V (As := [.int (nI i)]) (rest := []) S hE hS hAb (kw_get l hw hB 1 (by decide) (j := i) (x := ad 4 i) hc0 rfl) (cwV 1 hts gX4_verdict_Jx4a65c_get_915e3 rfl rfl rfl (by decide +kernel) ⟨Nat.le_of_ble_eq_true rfl, Nat.le_of_ble_eq_true rfl⟩) (hw.lv 1 1 (by decide : (1 : Nat) < 4)) rfl rfl hl.1 rfl (Nat.le_of_ble_eq_true rfl) dX4_verdict_10 ⟨Nat.zero_le _, Nat.zero_le _⟩) hS (fun locs hS => ?_)
  refine kr_cast (T := TX1) (N := 13) hx hb hts hown hK (hw.lv 4 i hc0) rfl (by decide +kernel) dX4_verdict_13 ?_
  refine kr_get (T := TX1) (N := 13) hx hb hts hown hK (hw.lv 4 i hc0) rfl kin_X4_verdict_X1 9 (by decide) (by decide +kernel) rfl dX4_verdict_16 ?_
  refine kend_i S hr hlocks hS ⟨rfl, rfl⟩ dX4_verdict_19
set_option maxHeartbeats 4000000 in
set_option maxRecDepth 100000 in
theorem cpx_verdict (ε : kEnv) (l : Launch) {A : Nat → Prop} {ad : Nat → Nat → Nat} {σ : kS} {H : Heap} {x : Int32} (hw : kW ε A ad σ H) (hB : kB σ) (hst : l.stackTraces = false) (h : x < 0 ∨ nI (σ 2 0) ≤ x) : kX ε l yX4_verdict wsX4_verdict ({ frames := 7, cells := 1, slots := 6, locals := 120 }) [.ref (ad 0 0), .int x] H "java/lang/IndexOutOfBoundsException" := by
  refine kofX (cc := cX4_verdict) (maxL := 2) (ret := (some .int)) (by decide) rfl (Nat.le_of_ble_eq_true rfl) ?_
  intro p e s m below meth c ls S hr hlocks hT hH hE hl
  have S : CallFix p m c cX4_verdict 2 s _ wsX4_verdict RX4 := S
  have hx := S.1
  have hb := S.2.1
  have hown : s.vm.findClass RX4 = some m.cls := S.2.2.2.1
  have hts := S.2.2.2.2
  have hK := hE.1
  have hS : va_S kNo s.heap H [] := by rw [hH]; exact va_S.rf
  have hAb : ∀ q, kNo q → kHi ε q := fun _ h => h.elim
  have hnR := hB.nR
  have hnC := hB.nC
  have hnW := hB.nW
  have hnA := hB.nA
  have hmn := hB.min
  have hl : lv_has ls 2 [(0, .ref (ad 0 0)), (1, .int x)] := hl
  refine lv_aload_n hx hb dX4_verdict_0 rfl (lv_at hl 0 rfl) ?_
  refine lv_iload_n hx hb dX4_verdict_1 rfl (lv_at hl 1 rfl) ?_
  exact kthru hT hlocks hH (kx_V (As := [.int x]) (rest := []) S hE hS hAb (cx_requireCheck ε l hw hB hst h) (cwV 1 hts gX4_verdict_X4_requireCheck rfl rfl rfl (by decide +kernel) ⟨Nat.le_of_ble_eq_true rfl, Nat.le_of_ble_eq_true rfl⟩) (hw.lv 0 0 (rfl : (0 : Nat) = 0)) rfl rfl hl.1 rfl (Nat.le_of_ble_eq_true rfl) dX4_verdict_2 ⟨Nat.le_refl _, Nat.le_refl _⟩) hS
theorem kin_X4_alarmCheck_X4 : ∀ w ∈ wsX40, w ∈ wsX4_alarmCheck := by decide +kernel
theorem kin_X4_alarmCheck_X0 : ∀ w ∈ wsX00, w ∈ wsX4_alarmCheck := by decide +kernel
set_option maxHeartbeats 4000000 in
set_option maxRecDepth 100000 in
theorem cp_alarmCheck (ε : kEnv) (l : Launch) {A : Nat → Prop} {ad : Nat → Nat → Nat} {σ : kS} {H : Heap} {i : Nat} (hw : kW ε A ad σ H) (hB : kB σ) (hc0 : i < σ 4 0) : kPi ε l yX4_alarmCheck wsX4_alarmCheck ({ frames := 5, cells := 0, slots := 0, locals := 120 }) [.ref (ad 0 0), .int (nI i)] H (nI (σ 50 i)) := by
  refine kof (cc := cX4_alarmCheck) (maxL := 2) (ret := (some .int)) (by decide) rfl (Nat.le_of_ble_eq_true rfl) ?_
  intro p e s m below meth c ls S hr hlocks hin hH hE hl
  have S : CallFix p m c cX4_alarmCheck 2 s _ wsX4_alarmCheck RX4 := S
  have hx := S.1
  have hb := S.2.1
  have hown : s.vm.findClass RX4 = some m.cls := S.2.2.2.1
  have hts := S.2.2.2.2
  have hK := hE.1
  have hS : va_S kNo s.heap H [] := by rw [hH]; exact va_S.rf
  have hAb : ∀ q, kNo q → kHi ε q := fun _ h => h.elim
  have hnR := hB.nR
  have hnC := hB.nC
  have hnW := hB.nW
  have hnA := hB.nA
  have hmn := hB.min
  have hl : lv_has ls 2 [(0, .ref (ad 0 0)), (1, .int (nI i))] := hl
  refine lv_aload_n hx hb dX4_alarmCheck_0 rfl (lv_at hl 0 rfl) ?_
  refine lv_iload_n hx hb dX4_alarmCheck_1 rfl (lv_at hl 1 rfl) ?_
  refine kgo_pv (kc_V (As := [.int (nI i)]) (rest := []) S hE hS hAb (cc_requireAlarm ε l hw hB hc0) (cwV 1 hts gX4_alarmCheck_X4_requireAlarm rfl rfl rfl (by decide +kernel) ⟨Nat.le_of_ble_eq_true rfl, Nat.le_of_ble_eq_true rfl⟩) (hw.lv 0 0 (rfl : (0 : Nat) = 0)) rfl rfl hl.1 rfl (Nat.le_of_ble_eq_true rfl) dX4_alarmCheck_2 ⟨Nat.zero_le _, Nat.zero_le _⟩) hS (fun locs hS => ?_)
  refine lv_aload_n hx hb dX4_alarmCheck_5 rfl (lv_at hl 0 rfl) ?_
  refine kr_get (T := TX4) (N := 7) hx hb hts hown hK (hw.lv 0 0 (rfl : (0 : Nat) = 0)) rfl kin_X4_alarmCheck_X4 3 (by decide) (by decide +kernel) rfl dX4_alarmCheck_6 ?_
  refine lv_iload_n hx hb dX4_alarmCheck_9 rfl (lv_at hl 1 rfl) ?_
  refine kgo_pr (v := ad 9 i) (kc_V (As := [.int (nI i)]) (rest := []) S hE hS hAb (kw_get l hw hB 3 (by decide) (j := i) (x := ad 9 i) hc0 rfl) (cwV 1 hts gX4_alarmCheck_Jx4a65c_get_915e3 rfl rfl rfl (by decide +kernel) ⟨Nat.le_of_ble_eq_true rfl, Nat.le_of_ble_eq_true rfl⟩) (hw.lv 1 3 (by decide : (3 : Nat) < 4)) rfl rfl hl.1 rfl (Nat.le_of_ble_eq_true rfl) dX4_alarmCheck_10 ⟨Nat.zero_le _, Nat.zero_le _⟩) hS (fun locs hS => ?_)
  refine kr_cast (T := TX0) (N := 3) hx hb hts hown hK (hw.lv 9 i hc0) rfl (by decide +kernel) dX4_alarmCheck_13 ?_
  refine kr_get (T := TX0) (N := 3) hx hb hts hown hK (hw.lv 9 i hc0) rfl kin_X4_alarmCheck_X0 0 (by decide) (by decide +kernel) rfl dX4_alarmCheck_16 ?_
  refine kend_i S hr hlocks hS ⟨rfl, rfl⟩ dX4_alarmCheck_19
set_option maxHeartbeats 4000000 in
set_option maxRecDepth 100000 in
theorem cpx_alarmCheck (ε : kEnv) (l : Launch) {A : Nat → Prop} {ad : Nat → Nat → Nat} {σ : kS} {H : Heap} {x : Int32} (hw : kW ε A ad σ H) (hB : kB σ) (hst : l.stackTraces = false) (h : x < 0 ∨ nI (σ 4 0) ≤ x) : kX ε l yX4_alarmCheck wsX4_alarmCheck ({ frames := 7, cells := 1, slots := 6, locals := 120 }) [.ref (ad 0 0), .int x] H "java/lang/IndexOutOfBoundsException" := by
  refine kofX (cc := cX4_alarmCheck) (maxL := 2) (ret := (some .int)) (by decide) rfl (Nat.le_of_ble_eq_true rfl) ?_
  intro p e s m below meth c ls S hr hlocks hT hH hE hl
  have S : CallFix p m c cX4_alarmCheck 2 s _ wsX4_alarmCheck RX4 := S
  have hx := S.1
  have hb := S.2.1
  have hown : s.vm.findClass RX4 = some m.cls := S.2.2.2.1
  have hts := S.2.2.2.2
  have hK := hE.1
  have hS : va_S kNo s.heap H [] := by rw [hH]; exact va_S.rf
  have hAb : ∀ q, kNo q → kHi ε q := fun _ h => h.elim
  have hnR := hB.nR
  have hnC := hB.nC
  have hnW := hB.nW
  have hnA := hB.nA
  have hmn := hB.min
  have hl : lv_has ls 2 [(0, .ref (ad 0 0)), (1, .int x)] := hl
  refine lv_aload_n hx hb dX4_alarmCheck_0 rfl (lv_at hl 0 rfl) ?_
  refine lv_iload_n hx hb dX4_alarmCheck_1 rfl (lv_at hl 1 rfl) ?_
  exact kthru hT hlocks hH (kx_V (As := [.int x]) (rest := []) S hE hS hAb (cx_requireAlarm ε l hw hB hst h) (cwV 1 hts gX4_alarmCheck_X4_requireAlarm rfl rfl rfl (by decide +kernel) ⟨Nat.le_of_ble_eq_true rfl, Nat.le_of_ble_eq_true rfl⟩) (hw.lv 0 0 (rfl : (0 : Nat) = 0)) rfl rfl hl.1 rfl (Nat.le_of_ble_eq_true rfl) dX4_alarmCheck_2 ⟨Nat.le_refl _, Nat.le_refl _⟩) hS
theorem kin_X4_alarmRaised_X4 : ∀ w ∈ wsX40, w ∈ wsX4_alarmRaised := by decide +kernel
theorem kin_X4_alarmRaised_X0 : ∀ w ∈ wsX00, w ∈ wsX4_alarmRaised := by decide +kernel
set_option maxHeartbeats 4000000 in
set_option maxRecDepth 100000 in
theorem cp_alarmRaised (ε : kEnv) (l : Launch) {A : Nat → Prop} {ad : Nat → Nat → Nat} {σ : kS} {H : Heap} {i : Nat} (hw : kW ε A ad σ H) (hB : kB σ) (hc0 : i < σ 4 0) : kPi ε l yX4_alarmRaised wsX4_alarmRaised ({ frames := 5, cells := 0, slots := 0, locals := 120 }) [.ref (ad 0 0), .int (nI i)] H (nI (σ 51 i)) := by
  refine kof (cc := cX4_alarmRaised) (maxL := 2) (ret := (some .int)) (by decide) rfl (Nat.le_of_ble_eq_true rfl) ?_
  intro p e s m below meth c ls S hr hlocks hin hH hE hl
  have S : CallFix p m c cX4_alarmRaised 2 s _ wsX4_alarmRaised RX4 := S
  have hx := S.1
  have hb := S.2.1
  have hown : s.vm.findClass RX4 = some m.cls := S.2.2.2.1
  have hts := S.2.2.2.2
  have hK := hE.1
  have hS : va_S kNo s.heap H [] := by rw [hH]; exact va_S.rf
  have hAb : ∀ q, kNo q → kHi ε q := fun _ h => h.elim
  have hnR := hB.nR
  have hnC := hB.nC
  have hnW := hB.nW
  have hnA := hB.nA
  have hmn := hB.min
  have hl : lv_has ls 2 [(0, .ref (ad 0 0)), (1, .int (nI i))] := hl
  refine lv_aload_n hx hb dX4_alarmRaised_0 rfl (lv_at hl 0 rfl) ?_
  refine lv_iload_n hx hb dX4_alarmRaised_1 rfl (lv_at hl 1 rfl) ?_
  refine kgo_pv (kc_V (As := [.int (nI i)]) (rest := []) S hE hS hAb (cc_requireAlarm ε l hw hB hc0) (cwV 1 hts gX4_alarmRaised_X4_requireAlarm rfl rfl rfl (by decide +kernel) ⟨Nat.le_of_ble_eq_true rfl, Nat.le_of_ble_eq_true rfl⟩) (hw.lv 0 0 (rfl : (0 : Nat) = 0)) rfl rfl hl.1 rfl (Nat.le_of_ble_eq_true rfl) dX4_alarmRaised_2 ⟨Nat.zero_le _, Nat.zero_le _⟩) hS (fun locs hS => ?_)
  refine lv_aload_n hx hb dX4_alarmRaised_5 rfl (lv_at hl 0 rfl) ?_
  refine kr_get (T := TX4) (N := 7) hx hb hts hown hK (hw.lv 0 0 (rfl : (0 : Nat) = 0)) rfl kin_X4_alarmRaised_X4 3 (by decide) (by decide +kernel) rfl dX4_alarmRaised_6 ?_
  refine lv_iload_n hx hb dX4_alarmRaised_9 rfl (lv_at hl 1 rfl) ?_
  refine kgo_pr (v := ad 9 i) (kc_V (As := [.int (nI i)]) (rest := []) S hE hS hAb (kw_get l hw hB 3 (by decide) (j := i) (x := ad 9 i) hc0 rfl) (cwV 1 hts gX4_alarmRaised_Jx4a65c_get_915e3 rfl rfl rfl (by decide +kernel) ⟨Nat.le_of_ble_eq_true rfl, Nat.le_of_ble_eq_true rfl⟩) (hw.lv 1 3 (by decide : (3 : Nat) < 4)) rfl rfl hl.1 rfl (Nat.le_of_ble_eq_true rfl) dX4_alarmRaised_10 ⟨Nat.zero_le _, Nat.zero_le _⟩) hS (fun locs hS => ?_)
  refine kr_cast (T := TX0) (N := 3) hx hb hts hown hK (hw.lv 9 i hc0) rfl (by decide +kernel) dX4_alarmRaised_13 ?_
  refine kr_get (T := TX0) (N := 3) hx hb hts hown hK (hw.lv 9 i hc0) rfl kin_X4_alarmRaised_X0 1 (by decide) (by decide +kernel) rfl dX4_alarmRaised_16 ?_
  refine kend_i S hr hlocks hS ⟨rfl, rfl⟩ dX4_alarmRaised_19
set_option maxHeartbeats 4000000 in
set_option maxRecDepth 100000 in
theorem cpx_alarmRaised (ε : kEnv) (l : Launch) {A : Nat → Prop} {ad : Nat → Nat → Nat} {σ : kS} {H : Heap} {x : Int32} (hw : kW ε A ad σ H) (hB : kB σ) (hst : l.stackTraces = false) (h : x < 0 ∨ nI (σ 4 0) ≤ x) : kX ε l yX4_alarmRaised wsX4_alarmRaised ({ frames := 7, cells := 1, slots := 6, locals := 120 }) [.ref (ad 0 0), .int x] H "java/lang/IndexOutOfBoundsException" := by
  refine kofX (cc := cX4_alarmRaised) (maxL := 2) (ret := (some .int)) (by decide) rfl (Nat.le_of_ble_eq_true rfl) ?_
  intro p e s m below meth c ls S hr hlocks hT hH hE hl
  have S : CallFix p m c cX4_alarmRaised 2 s _ wsX4_alarmRaised RX4 := S
  have hx := S.1
  have hb := S.2.1
  have hown : s.vm.findClass RX4 = some m.cls := S.2.2.2.1
  have hts := S.2.2.2.2
  have hK := hE.1
  have hS : va_S kNo s.heap H [] := by rw [hH]; exact va_S.rf
  have hAb : ∀ q, kNo q → kHi ε q := fun _ h => h.elim
  have hnR := hB.nR
  have hnC := hB.nC
  have hnW := hB.nW
  have hnA := hB.nA
  have hmn := hB.min
  have hl : lv_has ls 2 [(0, .ref (ad 0 0)), (1, .int x)] := hl
  refine lv_aload_n hx hb dX4_alarmRaised_0 rfl (lv_at hl 0 rfl) ?_
  refine lv_iload_n hx hb dX4_alarmRaised_1 rfl (lv_at hl 1 rfl) ?_
  exact kthru hT hlocks hH (kx_V (As := [.int x]) (rest := []) S hE hS hAb (cx_requireAlarm ε l hw hB hst h) (cwV 1 hts gX4_alarmRaised_X4_requireAlarm rfl rfl rfl (by decide +kernel) ⟨Nat.le_of_ble_eq_true rfl, Nat.le_of_ble_eq_true rfl⟩) (hw.lv 0 0 (rfl : (0 : Nat) = 0)) rfl rfl hl.1 rfl (Nat.le_of_ble_eq_true rfl) dX4_alarmRaised_2 ⟨Nat.le_refl _, Nat.le_refl _⟩) hS
theorem kin_X4_alarmClosed_X4 : ∀ w ∈ wsX40, w ∈ wsX4_alarmClosed := by decide +kernel
theorem kin_X4_alarmClosed_X0 : ∀ w ∈ wsX00, w ∈ wsX4_alarmClosed := by decide +kernel
set_option maxHeartbeats 4000000 in
set_option maxRecDepth 100000 in
theorem cp_alarmClosed (ε : kEnv) (l : Launch) {A : Nat → Prop} {ad : Nat → Nat → Nat} {σ : kS} {H : Heap} {i : Nat} (hw : kW ε A ad σ H) (hB : kB σ) (hc0 : i < σ 4 0) : kPi ε l yX4_alarmClosed wsX4_alarmClosed ({ frames := 5, cells := 0, slots := 0, locals := 120 }) [.ref (ad 0 0), .int (nI i)] H (mI (σ 52 i)) := by
  refine kof (cc := cX4_alarmClosed) (maxL := 2) (ret := (some .int)) (by decide) rfl (Nat.le_of_ble_eq_true rfl) ?_
  intro p e s m below meth c ls S hr hlocks hin hH hE hl
  have S : CallFix p m c cX4_alarmClosed 2 s _ wsX4_alarmClosed RX4 := S
  have hx := S.1
  have hb := S.2.1
  have hown : s.vm.findClass RX4 = some m.cls := S.2.2.2.1
  have hts := S.2.2.2.2
  have hK := hE.1
  have hS : va_S kNo s.heap H [] := by rw [hH]; exact va_S.rf
  have hAb : ∀ q, kNo q → kHi ε q := fun _ h => h.elim
  have hnR := hB.nR
  have hnC := hB.nC
  have hnW := hB.nW
  have hnA := hB.nA
  have hmn := hB.min
  have hl : lv_has ls 2 [(0, .ref (ad 0 0)), (1, .int (nI i))] := hl
  refine lv_aload_n hx hb dX4_alarmClosed_0 rfl (lv_at hl 0 rfl) ?_
  refine lv_iload_n hx hb dX4_alarmClosed_1 rfl (lv_at hl 1 rfl) ?_
  refine kgo_pv (kc_V (As := [.int (nI i)]) (rest := []) S hE hS hAb (cc_requireAlarm ε l hw hB hc0) (cwV 1 hts gX4_alarmClosed_X4_requireAlarm rfl rfl rfl (by decide +kernel) ⟨Nat.le_of_ble_eq_true rfl, Nat.le_of_ble_eq_true rfl⟩) (hw.lv 0 0 (rfl : (0 : Nat) = 0)) rfl rfl hl.1 rfl (Nat.le_of_ble_eq_true rfl) dX4_alarmClosed_2 ⟨Nat.zero_le _, Nat.zero_le _⟩) hS (fun locs hS => ?_)
  refine lv_aload_n hx hb dX4_alarmClosed_5 rfl (lv_at hl 0 rfl) ?_
  refine kr_get (T := TX4) (N := 7) hx hb hts hown hK (hw.lv 0 0 (rfl : (0 : Nat) = 0)) rfl kin_X4_alarmClosed_X4 3 (by decide) (by decide +kernel) rfl dX4_alarmClosed_6 ?_
  refine lv_iload_n hx hb dX4_alarmClosed_9 rfl (lv_at hl 1 rfl) ?_
  refine kgo_pr (v := ad 9 i) (kc_V (As := [.int (nI i)]) (rest := []) S hE hS hAb (kw_get l hw hB 3 (by decide) (j := i) (x := ad 9 i) hc0 rfl) (cwV 1 hts gX4_alarmClosed_Jx4a65c_get_915e3 rfl rfl rfl (by decide +kernel) ⟨Nat.le_of_ble_eq_true rfl, Nat.le_of_ble_eq_true rfl⟩) (hw.lv 1 3 (by decide : (3 : Nat) < 4)) rfl rfl hl.1 rfl (Nat.le_of_ble_eq_true rfl) dX4_alarmClosed_10 ⟨Nat.zero_le _, Nat.zero_le _⟩) hS (fun locs hS => ?_)
  refine kr_cast (T := TX0) (N := 3) hx hb hts hown hK (hw.lv 9 i hc0) rfl (by decide +kernel) dX4_alarmClosed_13 ?_
  refine kr_get (T := TX0) (N := 3) hx hb hts hown hK (hw.lv 9 i hc0) rfl kin_X4_alarmClosed_X0 2 (by decide) (by decide +kernel) rfl dX4_alarmClosed_16 ?_
  refine kend_i S hr hlocks hS ⟨rfl, rfl⟩ dX4_alarmClosed_19
set_option maxHeartbeats 4000000 in
set_option maxRecDepth 100000 in
theorem cpx_alarmClosed (ε : kEnv) (l : Launch) {A : Nat → Prop} {ad : Nat → Nat → Nat} {σ : kS} {H : Heap} {x : Int32} (hw : kW ε A ad σ H) (hB : kB σ) (hst : l.stackTraces = false) (h : x < 0 ∨ nI (σ 4 0) ≤ x) : kX ε l yX4_alarmClosed wsX4_alarmClosed ({ frames := 7, cells := 1, slots := 6, locals := 120 }) [.ref (ad 0 0), .int x] H "java/lang/IndexOutOfBoundsException" := by
  refine kofX (cc := cX4_alarmClosed) (maxL := 2) (ret := (some .int)) (by decide) rfl (Nat.le_of_ble_eq_true rfl) ?_
  intro p e s m below meth c ls S hr hlocks hT hH hE hl
  have S : CallFix p m c cX4_alarmClosed 2 s _ wsX4_alarmClosed RX4 := S
  have hx := S.1
  have hb := S.2.1
  have hown : s.vm.findClass RX4 = some m.cls := S.2.2.2.1
  have hts := S.2.2.2.2
  have hK := hE.1
  have hS : va_S kNo s.heap H [] := by rw [hH]; exact va_S.rf
  have hAb : ∀ q, kNo q → kHi ε q := fun _ h => h.elim
  have hnR := hB.nR
  have hnC := hB.nC
  have hnW := hB.nW
  have hnA := hB.nA
  have hmn := hB.min
  have hl : lv_has ls 2 [(0, .ref (ad 0 0)), (1, .int x)] := hl
  refine lv_aload_n hx hb dX4_alarmClosed_0 rfl (lv_at hl 0 rfl) ?_
  refine lv_iload_n hx hb dX4_alarmClosed_1 rfl (lv_at hl 1 rfl) ?_
  exact kthru hT hlocks hH (kx_V (As := [.int x]) (rest := []) S hE hS hAb (cx_requireAlarm ε l hw hB hst h) (cwV 1 hts gX4_alarmClosed_X4_requireAlarm rfl rfl rfl (by decide +kernel) ⟨Nat.le_of_ble_eq_true rfl, Nat.le_of_ble_eq_true rfl⟩) (hw.lv 0 0 (rfl : (0 : Nat) = 0)) rfl rfl hl.1 rfl (Nat.le_of_ble_eq_true rfl) dX4_alarmClosed_2 ⟨Nat.le_refl _, Nat.le_refl _⟩) hS
theorem kin_X4_isBad_X4 : ∀ w ∈ wsX40, w ∈ wsX4_isBad := by decide +kernel
set_option maxHeartbeats 4000000 in
set_option maxRecDepth 100000 in
theorem cp_isBad (ε : kEnv) (l : Launch) {A : Nat → Prop} {ad : Nat → Nat → Nat} {σ : kS} {H : Heap} {i : Nat} (hw : kW ε A ad σ H) (hB : kB σ) (hc0 : i < σ 1 0) : kPi ε l yX4_isBad wsX4_isBad ({ frames := 5, cells := 0, slots := 0, locals := 120 }) [.ref (ad 0 0), .int (nI i)] H (bI ((σ 15 0).testBit i)) := by
  refine kof (cc := cX4_isBad) (maxL := 2) (ret := (some .boolean)) (by decide) rfl (Nat.le_of_ble_eq_true rfl) ?_
  intro p e s m below meth c ls S hr hlocks hin hH hE hl
  have S : CallFix p m c cX4_isBad 2 s _ wsX4_isBad RX4 := S
  have hx := S.1
  have hb := S.2.1
  have hown : s.vm.findClass RX4 = some m.cls := S.2.2.2.1
  have hts := S.2.2.2.2
  have hK := hE.1
  have hS : va_S kNo s.heap H [] := by rw [hH]; exact va_S.rf
  have hAb : ∀ q, kNo q → kHi ε q := fun _ h => h.elim
  have hnR := hB.nR
  have hnC := hB.nC
  have hnW := hB.nW
  have hnA := hB.nA
  have hmn := hB.min
  have hl : lv_has ls 2 [(0, .ref (ad 0 0)), (1, .int (nI i))] := hl
  refine lv_aload_n hx hb dX4_isBad_0 rfl (lv_at hl 0 rfl) ?_
  refine lv_iload_n hx hb dX4_isBad_1 rfl (lv_at hl 1 rfl) ?_
  refine kgo_pv (kc_V (As := [.int (nI i)]) (rest := []) S hE hS hAb (cc_requireRegion ε l hw hB hc0) (cwV 1 hts gX4_isBad_X4_requireRegion rfl rfl rfl (by decide +kernel) ⟨Nat.le_of_ble_eq_true rfl, Nat.le_of_ble_eq_true rfl⟩) (hw.lv 0 0 (rfl : (0 : Nat) = 0)) rfl rfl hl.1 rfl (Nat.le_of_ble_eq_true rfl) dX4_isBad_2 ⟨Nat.zero_le _, Nat.zero_le _⟩) hS (fun locs hS => ?_)
  refine lv_aload_n hx hb dX4_isBad_5 rfl (lv_at hl 0 rfl) ?_
  refine kr_get (T := TX4) (N := 7) hx hb hts hown hK (hw.lv 0 0 (rfl : (0 : Nat) = 0)) rfl kin_X4_isBad_X4 5 (by decide) (by decide +kernel) rfl dX4_isBad_6 ?_
  refine lv_iload_n hx hb dX4_isBad_9 rfl (lv_at hl 1 rfl) ?_
  refine kgo_pi (v := bI ((σ 15 0).testBit i)) (kc_S (As := [.int (nI (σ 15 0)), .int (nI i)]) (rest := []) S hE hS hAb (cc_holds ε l hB.bad (hB.r6 hc0)) (va_cwS 2 hts gX4_isBad_X4_holds rfl rfl rfl (by decide +kernel) ⟨Nat.le_of_ble_eq_true rfl, Nat.le_of_ble_eq_true rfl⟩) rfl hl.1 rfl (Nat.le_of_ble_eq_true rfl) dX4_isBad_10 ⟨Nat.zero_le _, Nat.zero_le _⟩) hS (fun locs hS => ?_)
  refine kend_z S hr hlocks hS ⟨rfl, rfl⟩ (bI_01 _) dX4_isBad_13
set_option maxHeartbeats 4000000 in
set_option maxRecDepth 100000 in
theorem cpx_isBad (ε : kEnv) (l : Launch) {A : Nat → Prop} {ad : Nat → Nat → Nat} {σ : kS} {H : Heap} {x : Int32} (hw : kW ε A ad σ H) (hB : kB σ) (hst : l.stackTraces = false) (h : x < 0 ∨ nI (σ 1 0) ≤ x) : kX ε l yX4_isBad wsX4_isBad ({ frames := 7, cells := 1, slots := 6, locals := 120 }) [.ref (ad 0 0), .int x] H "java/lang/IndexOutOfBoundsException" := by
  refine kofX (cc := cX4_isBad) (maxL := 2) (ret := (some .boolean)) (by decide) rfl (Nat.le_of_ble_eq_true rfl) ?_
  intro p e s m below meth c ls S hr hlocks hT hH hE hl
  have S : CallFix p m c cX4_isBad 2 s _ wsX4_isBad RX4 := S
  have hx := S.1
  have hb := S.2.1
  have hown : s.vm.findClass RX4 = some m.cls := S.2.2.2.1
  have hts := S.2.2.2.2
  have hK := hE.1
  have hS : va_S kNo s.heap H [] := by rw [hH]; exact va_S.rf
  have hAb : ∀ q, kNo q → kHi ε q := fun _ h => h.elim
  have hnR := hB.nR
  have hnC := hB.nC
  have hnW := hB.nW
  have hnA := hB.nA
  have hmn := hB.min
  have hl : lv_has ls 2 [(0, .ref (ad 0 0)), (1, .int x)] := hl
  refine lv_aload_n hx hb dX4_isBad_0 rfl (lv_at hl 0 rfl) ?_
  refine lv_iload_n hx hb dX4_isBad_1 rfl (lv_at hl 1 rfl) ?_
  exact kthru hT hlocks hH (kx_V (As := [.int x]) (rest := []) S hE hS hAb (cx_requireRegion ε l hw hB hst h) (cwV 1 hts gX4_isBad_X4_requireRegion rfl rfl rfl (by decide +kernel) ⟨Nat.le_of_ble_eq_true rfl, Nat.le_of_ble_eq_true rfl⟩) (hw.lv 0 0 (rfl : (0 : Nat) = 0)) rfl rfl hl.1 rfl (Nat.le_of_ble_eq_true rfl) dX4_isBad_2 ⟨Nat.le_refl _, Nat.le_refl _⟩) hS
theorem kin_X4_trusted_X4 : ∀ w ∈ wsX40, w ∈ wsX4_trusted := by decide +kernel
set_option maxHeartbeats 4000000 in
set_option maxRecDepth 100000 in
theorem cp_trusted (ε : kEnv) (l : Launch) {A : Nat → Prop} {ad : Nat → Nat → Nat} {σ : kS} {H : Heap} {i : Nat} (hw : kW ε A ad σ H) (hB : kB σ) (hc0 : i < σ 2 0) : kPi ε l yX4_trusted wsX4_trusted ({ frames := 5, cells := 0, slots := 0, locals := 120 }) [.ref (ad 0 0), .int (nI i)] H (nI (kTrm σ i (σ 1 0))) := by
  refine kof (cc := cX4_trusted) (maxL := 2) (ret := (some .int)) (by decide) rfl (Nat.le_of_ble_eq_true rfl) ?_
  intro p e s m below meth c ls S hr hlocks hin hH hE hl
  have S : CallFix p m c cX4_trusted 2 s _ wsX4_trusted RX4 := S
  have hx := S.1
  have hb := S.2.1
  have hown : s.vm.findClass RX4 = some m.cls := S.2.2.2.1
  have hts := S.2.2.2.2
  have hK := hE.1
  have hS : va_S kNo s.heap H [] := by rw [hH]; exact va_S.rf
  have hAb : ∀ q, kNo q → kHi ε q := fun _ h => h.elim
  have hnR := hB.nR
  have hnC := hB.nC
  have hnW := hB.nW
  have hnA := hB.nA
  have hmn := hB.min
  have hl : lv_has ls 2 [(0, .ref (ad 0 0)), (1, .int (nI i))] := hl
  refine lv_aload_n hx hb dX4_trusted_0 rfl (lv_at hl 0 rfl) ?_
  refine lv_iload_n hx hb dX4_trusted_1 rfl (lv_at hl 1 rfl) ?_
  refine kgo_pv (kc_V (As := [.int (nI i)]) (rest := []) S hE hS hAb (cc_requireCheck ε l hw hB hc0) (cwV 1 hts gX4_trusted_X4_requireCheck rfl rfl rfl (by decide +kernel) ⟨Nat.le_of_ble_eq_true rfl, Nat.le_of_ble_eq_true rfl⟩) (hw.lv 0 0 (rfl : (0 : Nat) = 0)) rfl rfl hl.1 rfl (Nat.le_of_ble_eq_true rfl) dX4_trusted_2 ⟨Nat.zero_le _, Nat.zero_le _⟩) hS (fun locs hS => ?_)
  refine lv_aload_n hx hb dX4_trusted_5 rfl (lv_at hl 0 rfl) ?_
  refine lv_aload_n hx hb dX4_trusted_6 rfl (lv_at hl 0 rfl) ?_
  refine kr_get (T := TX4) (N := 7) hx hb hts hown hK (hw.lv 0 0 (rfl : (0 : Nat) = 0)) rfl kin_X4_trusted_X4 1 (by decide) (by decide +kernel) rfl dX4_trusted_7 ?_
  refine lv_iload_n hx hb dX4_trusted_10 rfl (lv_at hl 1 rfl) ?_
  refine kgo_pr (v := ad 4 i) (kc_V (As := [.int (nI i)]) (rest := [.ref (ad 0 0)]) S hE hS hAb (kw_get l hw hB 1 (by decide) (j := i) (x := ad 4 i) hc0 rfl) (cwV 1 hts gX4_trusted_Jx4a65c_get_915e3 rfl rfl rfl (by decide +kernel) ⟨Nat.le_of_ble_eq_true rfl, Nat.le_of_ble_eq_true rfl⟩) (hw.lv 1 1 (by decide : (1 : Nat) < 4)) rfl rfl hl.1 rfl (Nat.le_of_ble_eq_true rfl) dX4_trusted_11 ⟨Nat.zero_le _, Nat.zero_le _⟩) hS (fun locs hS => ?_)
  refine kr_cast (T := TX1) (N := 13) hx hb hts hown hK (hw.lv 4 i hc0) rfl (by decide +kernel) dX4_trusted_14 ?_
  refine kgo_pi (v := nI (kTrm σ i (σ 1 0))) (kc_V (As := [.ref (ad 4 i)]) (rest := []) S hE hS hAb (cc_trusted ε l hw hB hc0) (cwV 1 hts gX4_trusted_X4_trustedRegions rfl rfl rfl (by decide +kernel) ⟨Nat.le_of_ble_eq_true rfl, Nat.le_of_ble_eq_true rfl⟩) (hw.lv 0 0 (rfl : (0 : Nat) = 0)) rfl rfl hl.1 rfl (Nat.le_of_ble_eq_true rfl) dX4_trusted_17 ⟨Nat.zero_le _, Nat.zero_le _⟩) hS (fun locs hS => ?_)
  refine kend_i S hr hlocks hS ⟨rfl, rfl⟩ dX4_trusted_20
set_option maxHeartbeats 4000000 in
set_option maxRecDepth 100000 in
theorem cpx_trusted (ε : kEnv) (l : Launch) {A : Nat → Prop} {ad : Nat → Nat → Nat} {σ : kS} {H : Heap} {x : Int32} (hw : kW ε A ad σ H) (hB : kB σ) (hst : l.stackTraces = false) (h : x < 0 ∨ nI (σ 2 0) ≤ x) : kX ε l yX4_trusted wsX4_trusted ({ frames := 7, cells := 1, slots := 6, locals := 120 }) [.ref (ad 0 0), .int x] H "java/lang/IndexOutOfBoundsException" := by
  refine kofX (cc := cX4_trusted) (maxL := 2) (ret := (some .int)) (by decide) rfl (Nat.le_of_ble_eq_true rfl) ?_
  intro p e s m below meth c ls S hr hlocks hT hH hE hl
  have S : CallFix p m c cX4_trusted 2 s _ wsX4_trusted RX4 := S
  have hx := S.1
  have hb := S.2.1
  have hown : s.vm.findClass RX4 = some m.cls := S.2.2.2.1
  have hts := S.2.2.2.2
  have hK := hE.1
  have hS : va_S kNo s.heap H [] := by rw [hH]; exact va_S.rf
  have hAb : ∀ q, kNo q → kHi ε q := fun _ h => h.elim
  have hnR := hB.nR
  have hnC := hB.nC
  have hnW := hB.nW
  have hnA := hB.nA
  have hmn := hB.min
  have hl : lv_has ls 2 [(0, .ref (ad 0 0)), (1, .int x)] := hl
  refine lv_aload_n hx hb dX4_trusted_0 rfl (lv_at hl 0 rfl) ?_
  refine lv_iload_n hx hb dX4_trusted_1 rfl (lv_at hl 1 rfl) ?_
  exact kthru hT hlocks hH (kx_V (As := [.int x]) (rest := []) S hE hS hAb (cx_requireCheck ε l hw hB hst h) (cwV 1 hts gX4_trusted_X4_requireCheck rfl rfl rfl (by decide +kernel) ⟨Nat.le_of_ble_eq_true rfl, Nat.le_of_ble_eq_true rfl⟩) (hw.lv 0 0 (rfl : (0 : Nat) = 0)) rfl rfl hl.1 rfl (Nat.le_of_ble_eq_true rfl) dX4_trusted_2 ⟨Nat.le_refl _, Nat.le_refl _⟩) hS
theorem kin_X4_hasAlarm_X4 : ∀ w ∈ wsX40, w ∈ wsX4_hasAlarm := by decide +kernel
theorem kin_X4_hasAlarm_X1 : ∀ w ∈ wsX10, w ∈ wsX4_hasAlarm := by decide +kernel
set_option maxHeartbeats 4000000 in
set_option maxRecDepth 100000 in
theorem cp_hasAlarm (ε : kEnv) (l : Launch) {A : Nat → Prop} {ad : Nat → Nat → Nat} {σ : kS} {H : Heap} {i : Nat} (hw : kW ε A ad σ H) (hB : kB σ) (hc0 : i < σ 2 0) : kPi ε l yX4_hasAlarm wsX4_hasAlarm ({ frames := 5, cells := 0, slots := 0, locals := 120 }) [.ref (ad 0 0), .int (nI i)] H (bI (σ 25 i != 0)) := by
  refine kof (cc := cX4_hasAlarm) (maxL := 2) (ret := (some .boolean)) (by decide) rfl (Nat.le_of_ble_eq_true rfl) ?_
  intro p e s m below meth c ls S hr hlocks hin hH hE hl
  have S : CallFix p m c cX4_hasAlarm 2 s _ wsX4_hasAlarm RX4 := S
  have hx := S.1
  have hb := S.2.1
  have hown : s.vm.findClass RX4 = some m.cls := S.2.2.2.1
  have hts := S.2.2.2.2
  have hK := hE.1
  have hS : va_S kNo s.heap H [] := by rw [hH]; exact va_S.rf
  have hAb : ∀ q, kNo q → kHi ε q := fun _ h => h.elim
  have hnR := hB.nR
  have hnC := hB.nC
  have hnW := hB.nW
  have hnA := hB.nA
  have hmn := hB.min
  have hl : lv_has ls 2 [(0, .ref (ad 0 0)), (1, .int (nI i))] := hl
  refine lv_aload_n hx hb dX4_hasAlarm_0 rfl (lv_at hl 0 rfl) ?_
  refine lv_iload_n hx hb dX4_hasAlarm_1 rfl (lv_at hl 1 rfl) ?_
  refine kgo_pv (kc_V (As := [.int (nI i)]) (rest := []) S hE hS hAb (cc_requireCheck ε l hw hB hc0) (cwV 1 hts gX4_hasAlarm_X4_requireCheck rfl rfl rfl (by decide +kernel) ⟨Nat.le_of_ble_eq_true rfl, Nat.le_of_ble_eq_true rfl⟩) (hw.lv 0 0 (rfl : (0 : Nat) = 0)) rfl rfl hl.1 rfl (Nat.le_of_ble_eq_true rfl) dX4_hasAlarm_2 ⟨Nat.zero_le _, Nat.zero_le _⟩) hS (fun locs hS => ?_)
  refine lv_aload_n hx hb dX4_hasAlarm_5 rfl (lv_at hl 0 rfl) ?_
  refine kr_get (T := TX4) (N := 7) hx hb hts hown hK (hw.lv 0 0 (rfl : (0 : Nat) = 0)) rfl kin_X4_hasAlarm_X4 1 (by decide) (by decide +kernel) rfl dX4_hasAlarm_6 ?_
  refine lv_iload_n hx hb dX4_hasAlarm_9 rfl (lv_at hl 1 rfl) ?_
  refine kgo_pr (v := ad 4 i) (kc_V (As := [.int (nI i)]) (rest := []) S hE hS hAb (kw_get l hw hB 1 (by decide) (j := i) (x := ad 4 i) hc0 rfl) (cwV 1 hts gX4_hasAlarm_Jx4a65c_get_915e3 rfl rfl rfl (by decide +kernel) ⟨Nat.le_of_ble_eq_true rfl, Nat.le_of_ble_eq_true rfl⟩) (hw.lv 1 1 (by decide : (1 : Nat) < 4)) rfl rfl hl.1 rfl (Nat.le_of_ble_eq_true rfl) dX4_hasAlarm_10 ⟨Nat.zero_le _, Nat.zero_le _⟩) hS (fun locs hS => ?_)
  refine kr_cast (T := TX1) (N := 13) hx hb hts hown hK (hw.lv 4 i hc0) rfl (by decide +kernel) dX4_hasAlarm_13 ?_
  refine kr_get (T := TX1) (N := 13) hx hb hts hown hK (hw.lv 4 i hc0) rfl kin_X4_hasAlarm_X1 10 (by decide) (by decide +kernel) rfl dX4_hasAlarm_16 ?_
  refine kr_ifnull (tgt := 26) hx hb dX4_hasAlarm_19 (by decide) (fun hf => ?_) (fun q9 hf => ?_)
  · refine lv_iconst (v := 0) hx hb dX4_hasAlarm_26 (by decide) ?_
    have he : (σ 25 i != 0) = false := by simpa using kop_none.mp hf
    refine kend_z S hr hlocks hS ⟨by rw [he]; rfl, rfl⟩ (Or.inl rfl) dX4_hasAlarm_27
  · refine lv_iconst (v := 1) hx hb dX4_hasAlarm_22 (by decide) ?_
    refine lv_goto (tgt := 27) hx hb dX4_hasAlarm_23 (by decide) ?_
    have he : (σ 25 i != 0) = true := by simpa using fun h : σ 25 i = 0 => absurd hf (by rw [kop_none.mpr h]; exact fun h => by cases h)
    refine kend_z S hr hlocks hS ⟨by rw [he]; rfl, rfl⟩ (Or.inr rfl) dX4_hasAlarm_27
set_option maxHeartbeats 4000000 in
set_option maxRecDepth 100000 in
theorem cpx_hasAlarm (ε : kEnv) (l : Launch) {A : Nat → Prop} {ad : Nat → Nat → Nat} {σ : kS} {H : Heap} {x : Int32} (hw : kW ε A ad σ H) (hB : kB σ) (hst : l.stackTraces = false) (h : x < 0 ∨ nI (σ 2 0) ≤ x) : kX ε l yX4_hasAlarm wsX4_hasAlarm ({ frames := 7, cells := 1, slots := 6, locals := 120 }) [.ref (ad 0 0), .int x] H "java/lang/IndexOutOfBoundsException" := by
  refine kofX (cc := cX4_hasAlarm) (maxL := 2) (ret := (some .boolean)) (by decide) rfl (Nat.le_of_ble_eq_true rfl) ?_
  intro p e s m below meth c ls S hr hlocks hT hH hE hl
  have S : CallFix p m c cX4_hasAlarm 2 s _ wsX4_hasAlarm RX4 := S
  have hx := S.1
  have hb := S.2.1
  have hown : s.vm.findClass RX4 = some m.cls := S.2.2.2.1
  have hts := S.2.2.2.2
  have hK := hE.1
  have hS : va_S kNo s.heap H [] := by rw [hH]; exact va_S.rf
  have hAb : ∀ q, kNo q → kHi ε q := fun _ h => h.elim
  have hnR := hB.nR
  have hnC := hB.nC
  have hnW := hB.nW
  have hnA := hB.nA
  have hmn := hB.min
  have hl : lv_has ls 2 [(0, .ref (ad 0 0)), (1, .int x)] := hl
  refine lv_aload_n hx hb dX4_hasAlarm_0 rfl (lv_at hl 0 rfl) ?_
  refine lv_iload_n hx hb dX4_hasAlarm_1 rfl (lv_at hl 1 rfl) ?_
  exact kthru hT hlocks hH (kx_V (As := [.int x]) (rest := []) S hE hS hAb (cx_requireCheck ε l hw hB hst h) (cwV 1 hts gX4_hasAlarm_X4_requireCheck rfl rfl rfl (by decide +kernel) ⟨Nat.le_of_ble_eq_true rfl, Nat.le_of_ble_eq_true rfl⟩) (hw.lv 0 0 (rfl : (0 : Nat) = 0)) rfl rfl hl.1 rfl (Nat.le_of_ble_eq_true rfl) dX4_hasAlarm_2 ⟨Nat.le_refl _, Nat.le_refl _⟩) hS
theorem kin_X4_repetition_X4 : ∀ w ∈ wsX40, w ∈ wsX4_repetition := by decide +kernel
theorem kin_X4_repetition_X1 : ∀ w ∈ wsX10, w ∈ wsX4_repetition := by decide +kernel
set_option maxHeartbeats 4000000 in
set_option maxRecDepth 100000 in
theorem cp_repetition (ε : kEnv) (l : Launch) {A : Nat → Prop} {ad : Nat → Nat → Nat} {σ : kS} {H : Heap} {i r : Nat} (hw : kW ε A ad σ H) (hB : kB σ) (hc0 : i < σ 2 0) (hr0 : r < σ 1 0) : kPi ε l yX4_repetition wsX4_repetition ({ frames := 5, cells := 0, slots := 0, locals := 120 }) [.ref (ad 0 0), .int (nI i), .int (nI r)] H (nI (σ 32 (6 * i + r))) := by
  refine kof (cc := cX4_repetition) (maxL := 3) (ret := (some .int)) (by decide) rfl (Nat.le_of_ble_eq_true rfl) ?_
  intro p e s m below meth c ls S hr hlocks hin hH hE hl
  have S : CallFix p m c cX4_repetition 3 s _ wsX4_repetition RX4 := S
  have hx := S.1
  have hb := S.2.1
  have hown : s.vm.findClass RX4 = some m.cls := S.2.2.2.1
  have hts := S.2.2.2.2
  have hK := hE.1
  have hS : va_S kNo s.heap H [] := by rw [hH]; exact va_S.rf
  have hAb : ∀ q, kNo q → kHi ε q := fun _ h => h.elim
  have hnR := hB.nR
  have hnC := hB.nC
  have hnW := hB.nW
  have hnA := hB.nA
  have hmn := hB.min
  have hl : lv_has ls 3 [(0, .ref (ad 0 0)), (1, .int (nI i)), (2, .int (nI r))] := hl
  refine lv_aload_n hx hb dX4_repetition_0 rfl (lv_at hl 0 rfl) ?_
  refine lv_iload_n hx hb dX4_repetition_1 rfl (lv_at hl 1 rfl) ?_
  refine kgo_pv (kc_V (As := [.int (nI i)]) (rest := []) S hE hS hAb (cc_requireCheck ε l hw hB hc0) (cwV 1 hts gX4_repetition_X4_requireCheck rfl rfl rfl (by decide +kernel) ⟨Nat.le_of_ble_eq_true rfl, Nat.le_of_ble_eq_true rfl⟩) (hw.lv 0 0 (rfl : (0 : Nat) = 0)) rfl rfl hl.1 rfl (Nat.le_of_ble_eq_true rfl) dX4_repetition_2 ⟨Nat.zero_le _, Nat.zero_le _⟩) hS (fun locs hS => ?_)
  refine lv_aload_n hx hb dX4_repetition_5 rfl (lv_at hl 0 rfl) ?_
  refine lv_iload_n hx hb dX4_repetition_6 rfl (lv_at hl 2 rfl) ?_
  refine kgo_pv (kc_V (As := [.int (nI r)]) (rest := []) S hE hS hAb (cc_requireRegion ε l hw hB hr0) (cwV 1 hts gX4_repetition_X4_requireRegion rfl rfl rfl (by decide +kernel) ⟨Nat.le_of_ble_eq_true rfl, Nat.le_of_ble_eq_true rfl⟩) (hw.lv 0 0 (rfl : (0 : Nat) = 0)) rfl rfl hl.1 rfl (Nat.le_of_ble_eq_true rfl) dX4_repetition_7 ⟨Nat.zero_le _, Nat.zero_le _⟩) hS (fun locs hS => ?_)
  have hr6 := hB.r6 hr0
  refine lv_aload_n hx hb dX4_repetition_10 rfl (lv_at hl 0 rfl) ?_
  refine kr_get (T := TX4) (N := 7) hx hb hts hown hK (hw.lv 0 0 (rfl : (0 : Nat) = 0)) rfl kin_X4_repetition_X4 1 (by decide) (by decide +kernel) rfl dX4_repetition_11 ?_
  refine lv_iload_n hx hb dX4_repetition_14 rfl (lv_at hl 1 rfl) ?_
  refine kgo_pr (v := ad 4 i) (kc_V (As := [.int (nI i)]) (rest := []) S hE hS hAb (kw_get l hw hB 1 (by decide) (j := i) (x := ad 4 i) hc0 rfl) (cwV 1 hts gX4_repetition_Jx4a65c_get_915e3 rfl rfl rfl (by decide +kernel) ⟨Nat.le_of_ble_eq_true rfl, Nat.le_of_ble_eq_true rfl⟩) (hw.lv 1 1 (by decide : (1 : Nat) < 4)) rfl rfl hl.1 rfl (Nat.le_of_ble_eq_true rfl) dX4_repetition_15 ⟨Nat.zero_le _, Nat.zero_le _⟩) hS (fun locs hS => ?_)
  refine kr_cast (T := TX1) (N := 13) hx hb hts hown hK (hw.lv 4 i hc0) rfl (by decide +kernel) dX4_repetition_18 ?_
  refine kr_get (T := TX1) (N := 13) hx hb hts hown hK (hw.lv 4 i hc0) rfl kin_X4_repetition_X1 7 (by decide) (by decide +kernel) rfl dX4_repetition_21 ?_
  refine lv_iload_n hx hb dX4_repetition_24 rfl (lv_at hl 2 rfl) ?_
  refine kr_ild hx hb hK (hw.lv 6 i hc0) (j := r) hr6 (nI_clamp (ks31 hr6)) (nI_pos (ks31 hr6)) (x := nI (σ 32 (6 * i + r))) rfl dX4_repetition_25 ?_
  refine kend_i S hr hlocks hS ⟨rfl, rfl⟩ dX4_repetition_26
set_option maxHeartbeats 4000000 in
set_option maxRecDepth 100000 in
theorem cpx_repetition1 (ε : kEnv) (l : Launch) {A : Nat → Prop} {ad : Nat → Nat → Nat} {σ : kS} {H : Heap} {x y : Int32} (hw : kW ε A ad σ H) (hB : kB σ) (hst : l.stackTraces = false) (h : x < 0 ∨ nI (σ 2 0) ≤ x) : kX ε l yX4_repetition wsX4_repetition ({ frames := 7, cells := 1, slots := 6, locals := 120 }) [.ref (ad 0 0), .int x, .int y] H "java/lang/IndexOutOfBoundsException" := by
  refine kofX (cc := cX4_repetition) (maxL := 3) (ret := (some .int)) (by decide) rfl (Nat.le_of_ble_eq_true rfl) ?_
  intro p e s m below meth c ls S hr hlocks hT hH hE hl
  have S : CallFix p m c cX4_repetition 3 s _ wsX4_repetition RX4 := S
  have hx := S.1
  have hb := S.2.1
  have hown : s.vm.findClass RX4 = some m.cls := S.2.2.2.1
  have hts := S.2.2.2.2
  have hK := hE.1
  have hS : va_S kNo s.heap H [] := by rw [hH]; exact va_S.rf
  have hAb : ∀ q, kNo q → kHi ε q := fun _ h => h.elim
  have hnR := hB.nR
  have hnC := hB.nC
  have hnW := hB.nW
  have hnA := hB.nA
  have hmn := hB.min
  have hl : lv_has ls 3 [(0, .ref (ad 0 0)), (1, .int x), (2, .int y)] := hl
  refine lv_aload_n hx hb dX4_repetition_0 rfl (lv_at hl 0 rfl) ?_
  refine lv_iload_n hx hb dX4_repetition_1 rfl (lv_at hl 1 rfl) ?_
  exact kthru hT hlocks hH (kx_V (As := [.int x]) (rest := []) S hE hS hAb (cx_requireCheck ε l hw hB hst h) (cwV 1 hts gX4_repetition_X4_requireCheck rfl rfl rfl (by decide +kernel) ⟨Nat.le_of_ble_eq_true rfl, Nat.le_of_ble_eq_true rfl⟩) (hw.lv 0 0 (rfl : (0 : Nat) = 0)) rfl rfl hl.1 rfl (Nat.le_of_ble_eq_true rfl) dX4_repetition_2 ⟨Nat.le_refl _, Nat.le_refl _⟩) hS
set_option maxHeartbeats 4000000 in
set_option maxRecDepth 100000 in
theorem cpx_repetition2 (ε : kEnv) (l : Launch) {A : Nat → Prop} {ad : Nat → Nat → Nat} {σ : kS} {H : Heap} {i : Nat} {y : Int32} (hw : kW ε A ad σ H) (hB : kB σ) (hst : l.stackTraces = false) (hc0 : i < σ 2 0) (h : y < 0 ∨ nI (σ 1 0) ≤ y) : kX ε l yX4_repetition wsX4_repetition ({ frames := 7, cells := 1, slots := 6, locals := 120 }) [.ref (ad 0 0), .int (nI i), .int y] H "java/lang/IndexOutOfBoundsException" := by
  refine kofX (cc := cX4_repetition) (maxL := 3) (ret := (some .int)) (by decide) rfl (Nat.le_of_ble_eq_true rfl) ?_
  intro p e s m below meth c ls S hr hlocks hT hH hE hl
  have S : CallFix p m c cX4_repetition 3 s _ wsX4_repetition RX4 := S
  have hx := S.1
  have hb := S.2.1
  have hown : s.vm.findClass RX4 = some m.cls := S.2.2.2.1
  have hts := S.2.2.2.2
  have hK := hE.1
  have hS : va_S kNo s.heap H [] := by rw [hH]; exact va_S.rf
  have hAb : ∀ q, kNo q → kHi ε q := fun _ h => h.elim
  have hnR := hB.nR
  have hnC := hB.nC
  have hnW := hB.nW
  have hnA := hB.nA
  have hmn := hB.min
  have hl : lv_has ls 3 [(0, .ref (ad 0 0)), (1, .int (nI i)), (2, .int y)] := hl
  refine lv_aload_n hx hb dX4_repetition_0 rfl (lv_at hl 0 rfl) ?_
  refine lv_iload_n hx hb dX4_repetition_1 rfl (lv_at hl 1 rfl) ?_
  refine kgo_pv (kc_V (As := [.int (nI i)]) (rest := []) S hE hS hAb (cc_requireCheck ε l hw hB hc0) (cwV 1 hts gX4_repetition_X4_requireCheck rfl rfl rfl (by decide +kernel) ⟨Nat.le_of_ble_eq_true rfl, Nat.le_of_ble_eq_true rfl⟩) (hw.lv 0 0 (rfl : (0 : Nat) = 0)) rfl rfl hl.1 rfl (Nat.le_of_ble_eq_true rfl) dX4_repetition_2 ⟨Nat.zero_le _, Nat.zero_le _⟩) hS (fun locs hS => ?_)
  refine lv_aload_n hx hb dX4_repetition_5 rfl (lv_at hl 0 rfl) ?_
  refine lv_iload_n hx hb dX4_repetition_6 rfl (lv_at hl 2 rfl) ?_
  exact kthru hT hlocks hH (kx_V (As := [.int y]) (rest := []) S hE hS hAb (cx_requireRegion ε l hw hB hst h) (cwV 1 hts gX4_repetition_X4_requireRegion rfl rfl rfl (by decide +kernel) ⟨Nat.le_of_ble_eq_true rfl, Nat.le_of_ble_eq_true rfl⟩) (hw.lv 0 0 (rfl : (0 : Nat) = 0)) rfl rfl hl.1 rfl (Nat.le_of_ble_eq_true rfl) dX4_repetition_7 ⟨Nat.le_refl _, Nat.le_refl _⟩) hS
theorem kin_X4_vote_X4 : ∀ w ∈ wsX40, w ∈ wsX4_vote := by decide +kernel
theorem kin_X4_vote_X1 : ∀ w ∈ wsX10, w ∈ wsX4_vote := by decide +kernel
set_option maxHeartbeats 4000000 in
set_option maxRecDepth 100000 in
theorem cp_vote (ε : kEnv) (l : Launch) {A : Nat → Prop} {ad : Nat → Nat → Nat} {σ : kS} {H : Heap} {i r : Nat} (hw : kW ε A ad σ H) (hB : kB σ) (hc0 : i < σ 2 0) (hr0 : r < σ 1 0) : kPi ε l yX4_vote wsX4_vote ({ frames := 5, cells := 0, slots := 0, locals := 120 }) [.ref (ad 0 0), .int (nI i), .int (nI r)] H (nI (σ 31 (6 * i + r))) := by
  refine kof (cc := cX4_vote) (maxL := 3) (ret := (some .int)) (by decide) rfl (Nat.le_of_ble_eq_true rfl) ?_
  intro p e s m below meth c ls S hr hlocks hin hH hE hl
  have S : CallFix p m c cX4_vote 3 s _ wsX4_vote RX4 := S
  have hx := S.1
  have hb := S.2.1
  have hown : s.vm.findClass RX4 = some m.cls := S.2.2.2.1
  have hts := S.2.2.2.2
  have hK := hE.1
  have hS : va_S kNo s.heap H [] := by rw [hH]; exact va_S.rf
  have hAb : ∀ q, kNo q → kHi ε q := fun _ h => h.elim
  have hnR := hB.nR
  have hnC := hB.nC
  have hnW := hB.nW
  have hnA := hB.nA
  have hmn := hB.min
  have hl : lv_has ls 3 [(0, .ref (ad 0 0)), (1, .int (nI i)), (2, .int (nI r))] := hl
  refine lv_aload_n hx hb dX4_vote_0 rfl (lv_at hl 0 rfl) ?_
  refine lv_iload_n hx hb dX4_vote_1 rfl (lv_at hl 1 rfl) ?_
  refine kgo_pv (kc_V (As := [.int (nI i)]) (rest := []) S hE hS hAb (cc_requireCheck ε l hw hB hc0) (cwV 1 hts gX4_vote_X4_requireCheck rfl rfl rfl (by decide +kernel) ⟨Nat.le_of_ble_eq_true rfl, Nat.le_of_ble_eq_true rfl⟩) (hw.lv 0 0 (rfl : (0 : Nat) = 0)) rfl rfl hl.1 rfl (Nat.le_of_ble_eq_true rfl) dX4_vote_2 ⟨Nat.zero_le _, Nat.zero_le _⟩) hS (fun locs hS => ?_)
  refine lv_aload_n hx hb dX4_vote_5 rfl (lv_at hl 0 rfl) ?_
  refine lv_iload_n hx hb dX4_vote_6 rfl (lv_at hl 2 rfl) ?_
  refine kgo_pv (kc_V (As := [.int (nI r)]) (rest := []) S hE hS hAb (cc_requireRegion ε l hw hB hr0) (cwV 1 hts gX4_vote_X4_requireRegion rfl rfl rfl (by decide +kernel) ⟨Nat.le_of_ble_eq_true rfl, Nat.le_of_ble_eq_true rfl⟩) (hw.lv 0 0 (rfl : (0 : Nat) = 0)) rfl rfl hl.1 rfl (Nat.le_of_ble_eq_true rfl) dX4_vote_7 ⟨Nat.zero_le _, Nat.zero_le _⟩) hS (fun locs hS => ?_)
  have hr6 := hB.r6 hr0
  refine lv_aload_n hx hb dX4_vote_10 rfl (lv_at hl 0 rfl) ?_
  refine kr_get (T := TX4) (N := 7) hx hb hts hown hK (hw.lv 0 0 (rfl : (0 : Nat) = 0)) rfl kin_X4_vote_X4 1 (by decide) (by decide +kernel) rfl dX4_vote_11 ?_
  refine lv_iload_n hx hb dX4_vote_14 rfl (lv_at hl 1 rfl) ?_
  refine kgo_pr (v := ad 4 i) (kc_V (As := [.int (nI i)]) (rest := []) S hE hS hAb (kw_get l hw hB 1 (by decide) (j := i) (x := ad 4 i) hc0 rfl) (cwV 1 hts gX4_vote_Jx4a65c_get_915e3 rfl rfl rfl (by decide +kernel) ⟨Nat.le_of_ble_eq_true rfl, Nat.le_of_ble_eq_true rfl⟩) (hw.lv 1 1 (by decide : (1 : Nat) < 4)) rfl rfl hl.1 rfl (Nat.le_of_ble_eq_true rfl) dX4_vote_15 ⟨Nat.zero_le _, Nat.zero_le _⟩) hS (fun locs hS => ?_)
  refine kr_cast (T := TX1) (N := 13) hx hb hts hown hK (hw.lv 4 i hc0) rfl (by decide +kernel) dX4_vote_18 ?_
  refine kr_get (T := TX1) (N := 13) hx hb hts hown hK (hw.lv 4 i hc0) rfl kin_X4_vote_X1 6 (by decide) (by decide +kernel) rfl dX4_vote_21 ?_
  refine lv_iload_n hx hb dX4_vote_24 rfl (lv_at hl 2 rfl) ?_
  refine kr_ild hx hb hK (hw.lv 5 i hc0) (j := r) hr6 (nI_clamp (ks31 hr6)) (nI_pos (ks31 hr6)) (x := nI (σ 31 (6 * i + r))) rfl dX4_vote_25 ?_
  refine kend_i S hr hlocks hS ⟨rfl, rfl⟩ dX4_vote_26
set_option maxHeartbeats 4000000 in
set_option maxRecDepth 100000 in
theorem cpx_vote1 (ε : kEnv) (l : Launch) {A : Nat → Prop} {ad : Nat → Nat → Nat} {σ : kS} {H : Heap} {x y : Int32} (hw : kW ε A ad σ H) (hB : kB σ) (hst : l.stackTraces = false) (h : x < 0 ∨ nI (σ 2 0) ≤ x) : kX ε l yX4_vote wsX4_vote ({ frames := 7, cells := 1, slots := 6, locals := 120 }) [.ref (ad 0 0), .int x, .int y] H "java/lang/IndexOutOfBoundsException" := by
  refine kofX (cc := cX4_vote) (maxL := 3) (ret := (some .int)) (by decide) rfl (Nat.le_of_ble_eq_true rfl) ?_
  intro p e s m below meth c ls S hr hlocks hT hH hE hl
  have S : CallFix p m c cX4_vote 3 s _ wsX4_vote RX4 := S
  have hx := S.1
  have hb := S.2.1
  have hown : s.vm.findClass RX4 = some m.cls := S.2.2.2.1
  have hts := S.2.2.2.2
  have hK := hE.1
  have hS : va_S kNo s.heap H [] := by rw [hH]; exact va_S.rf
  have hAb : ∀ q, kNo q → kHi ε q := fun _ h => h.elim
  have hnR := hB.nR
  have hnC := hB.nC
  have hnW := hB.nW
  have hnA := hB.nA
  have hmn := hB.min
  have hl : lv_has ls 3 [(0, .ref (ad 0 0)), (1, .int x), (2, .int y)] := hl
  refine lv_aload_n hx hb dX4_vote_0 rfl (lv_at hl 0 rfl) ?_
  refine lv_iload_n hx hb dX4_vote_1 rfl (lv_at hl 1 rfl) ?_
  exact kthru hT hlocks hH (kx_V (As := [.int x]) (rest := []) S hE hS hAb (cx_requireCheck ε l hw hB hst h) (cwV 1 hts gX4_vote_X4_requireCheck rfl rfl rfl (by decide +kernel) ⟨Nat.le_of_ble_eq_true rfl, Nat.le_of_ble_eq_true rfl⟩) (hw.lv 0 0 (rfl : (0 : Nat) = 0)) rfl rfl hl.1 rfl (Nat.le_of_ble_eq_true rfl) dX4_vote_2 ⟨Nat.le_refl _, Nat.le_refl _⟩) hS
set_option maxHeartbeats 4000000 in
set_option maxRecDepth 100000 in
theorem cpx_vote2 (ε : kEnv) (l : Launch) {A : Nat → Prop} {ad : Nat → Nat → Nat} {σ : kS} {H : Heap} {i : Nat} {y : Int32} (hw : kW ε A ad σ H) (hB : kB σ) (hst : l.stackTraces = false) (hc0 : i < σ 2 0) (h : y < 0 ∨ nI (σ 1 0) ≤ y) : kX ε l yX4_vote wsX4_vote ({ frames := 7, cells := 1, slots := 6, locals := 120 }) [.ref (ad 0 0), .int (nI i), .int y] H "java/lang/IndexOutOfBoundsException" := by
  refine kofX (cc := cX4_vote) (maxL := 3) (ret := (some .int)) (by decide) rfl (Nat.le_of_ble_eq_true rfl) ?_
  intro p e s m below meth c ls S hr hlocks hT hH hE hl
  have S : CallFix p m c cX4_vote 3 s _ wsX4_vote RX4 := S
  have hx := S.1
  have hb := S.2.1
  have hown : s.vm.findClass RX4 = some m.cls := S.2.2.2.1
  have hts := S.2.2.2.2
  have hK := hE.1
  have hS : va_S kNo s.heap H [] := by rw [hH]; exact va_S.rf
  have hAb : ∀ q, kNo q → kHi ε q := fun _ h => h.elim
  have hnR := hB.nR
  have hnC := hB.nC
  have hnW := hB.nW
  have hnA := hB.nA
  have hmn := hB.min
  have hl : lv_has ls 3 [(0, .ref (ad 0 0)), (1, .int (nI i)), (2, .int y)] := hl
  refine lv_aload_n hx hb dX4_vote_0 rfl (lv_at hl 0 rfl) ?_
  refine lv_iload_n hx hb dX4_vote_1 rfl (lv_at hl 1 rfl) ?_
  refine kgo_pv (kc_V (As := [.int (nI i)]) (rest := []) S hE hS hAb (cc_requireCheck ε l hw hB hc0) (cwV 1 hts gX4_vote_X4_requireCheck rfl rfl rfl (by decide +kernel) ⟨Nat.le_of_ble_eq_true rfl, Nat.le_of_ble_eq_true rfl⟩) (hw.lv 0 0 (rfl : (0 : Nat) = 0)) rfl rfl hl.1 rfl (Nat.le_of_ble_eq_true rfl) dX4_vote_2 ⟨Nat.zero_le _, Nat.zero_le _⟩) hS (fun locs hS => ?_)
  refine lv_aload_n hx hb dX4_vote_5 rfl (lv_at hl 0 rfl) ?_
  refine lv_iload_n hx hb dX4_vote_6 rfl (lv_at hl 2 rfl) ?_
  exact kthru hT hlocks hH (kx_V (As := [.int y]) (rest := []) S hE hS hAb (cx_requireRegion ε l hw hB hst h) (cwV 1 hts gX4_vote_X4_requireRegion rfl rfl rfl (by decide +kernel) ⟨Nat.le_of_ble_eq_true rfl, Nat.le_of_ble_eq_true rfl⟩) (hw.lv 0 0 (rfl : (0 : Nat) = 0)) rfl rfl hl.1 rfl (Nat.le_of_ble_eq_true rfl) dX4_vote_7 ⟨Nat.le_refl _, Nat.le_refl _⟩) hS
theorem kin_X4_nextProbe_X4 : ∀ w ∈ wsX40, w ∈ wsX4_nextProbe := by decide +kernel
set_option maxHeartbeats 4000000 in
set_option maxRecDepth 100000 in
theorem cp_nextProbe (ε : kEnv) (l : Launch) {A : Nat → Prop} {ad : Nat → Nat → Nat} {σ : kS} {H : Heap} {i r : Nat} (hw : kW ε A ad σ H) (hB : kB σ) (hc0 : i < σ 2 0) (hr0 : r < σ 1 0) : kPi ε l yX4_nextProbe wsX4_nextProbe ({ frames := 5, cells := 0, slots := 0, locals := 120 }) [.ref (ad 0 0), .int (nI i), .int (nI r)] H (nI (kNext σ i r (σ 0 0 + 1))) := by
  refine kof (cc := cX4_nextProbe) (maxL := 3) (ret := (some .int)) (by decide) rfl (Nat.le_of_ble_eq_true rfl) ?_
  intro p e s m below meth c ls S hr hlocks hin hH hE hl
  have S : CallFix p m c cX4_nextProbe 3 s _ wsX4_nextProbe RX4 := S
  have hx := S.1
  have hb := S.2.1
  have hown : s.vm.findClass RX4 = some m.cls := S.2.2.2.1
  have hts := S.2.2.2.2
  have hK := hE.1
  have hS : va_S kNo s.heap H [] := by rw [hH]; exact va_S.rf
  have hAb : ∀ q, kNo q → kHi ε q := fun _ h => h.elim
  have hnR := hB.nR
  have hnC := hB.nC
  have hnW := hB.nW
  have hnA := hB.nA
  have hmn := hB.min
  have hl : lv_has ls 3 [(0, .ref (ad 0 0)), (1, .int (nI i)), (2, .int (nI r))] := hl
  refine lv_aload_n hx hb dX4_nextProbe_0 rfl (lv_at hl 0 rfl) ?_
  refine lv_iload_n hx hb dX4_nextProbe_1 rfl (lv_at hl 1 rfl) ?_
  refine kgo_pv (kc_V (As := [.int (nI i)]) (rest := []) S hE hS hAb (cc_requireCheck ε l hw hB hc0) (cwV 1 hts gX4_nextProbe_X4_requireCheck rfl rfl rfl (by decide +kernel) ⟨Nat.le_of_ble_eq_true rfl, Nat.le_of_ble_eq_true rfl⟩) (hw.lv 0 0 (rfl : (0 : Nat) = 0)) rfl rfl hl.1 rfl (Nat.le_of_ble_eq_true rfl) dX4_nextProbe_2 ⟨Nat.zero_le _, Nat.zero_le _⟩) hS (fun locs hS => ?_)
  refine lv_aload_n hx hb dX4_nextProbe_5 rfl (lv_at hl 0 rfl) ?_
  refine lv_iload_n hx hb dX4_nextProbe_6 rfl (lv_at hl 2 rfl) ?_
  refine kgo_pv (kc_V (As := [.int (nI r)]) (rest := []) S hE hS hAb (cc_requireRegion ε l hw hB hr0) (cwV 1 hts gX4_nextProbe_X4_requireRegion rfl rfl rfl (by decide +kernel) ⟨Nat.le_of_ble_eq_true rfl, Nat.le_of_ble_eq_true rfl⟩) (hw.lv 0 0 (rfl : (0 : Nat) = 0)) rfl rfl hl.1 rfl (Nat.le_of_ble_eq_true rfl) dX4_nextProbe_7 ⟨Nat.zero_le _, Nat.zero_le _⟩) hS (fun locs hS => ?_)
  have hr6 := hB.r6 hr0
  refine lv_aload_n hx hb dX4_nextProbe_10 rfl (lv_at hl 0 rfl) ?_
  refine kr_get (T := TX4) (N := 7) hx hb hts hown hK (hw.lv 0 0 (rfl : (0 : Nat) = 0)) rfl kin_X4_nextProbe_X4 1 (by decide) (by decide +kernel) rfl dX4_nextProbe_11 ?_
  refine lv_iload_n hx hb dX4_nextProbe_14 rfl (lv_at hl 1 rfl) ?_
  refine kgo_pr (v := ad 4 i) (kc_V (As := [.int (nI i)]) (rest := []) S hE hS hAb (kw_get l hw hB 1 (by decide) (j := i) (x := ad 4 i) hc0 rfl) (cwV 1 hts gX4_nextProbe_Jx4a65c_get_915e3 rfl rfl rfl (by decide +kernel) ⟨Nat.le_of_ble_eq_true rfl, Nat.le_of_ble_eq_true rfl⟩) (hw.lv 1 1 (by decide : (1 : Nat) < 4)) rfl rfl hl.1 rfl (Nat.le_of_ble_eq_true rfl) dX4_nextProbe_15 ⟨Nat.zero_le _, Nat.zero_le _⟩) hS (fun locs hS => ?_)
  refine kr_cast (T := TX1) (N := 13) hx hb hts hown hK (hw.lv 4 i hc0) rfl (by decide +kernel) dX4_nextProbe_18 ?_
  have hmn9 := hB.min
  refine lv_iload_n hx hb dX4_nextProbe_21 rfl (lv_at hl 2 rfl) ?_
  refine lv_aload_n hx hb dX4_nextProbe_22 rfl (lv_at hl 0 rfl) ?_
  refine kr_get (T := TX4) (N := 7) hx hb hts hown hK (hw.lv 0 0 (rfl : (0 : Nat) = 0)) rfl kin_X4_nextProbe_X4 6 (by decide) (by decide +kernel) rfl dX4_nextProbe_23 ?_
  refine lv_iconst (v := 1) hx hb dX4_nextProbe_26 (by decide) ?_
  refine lv_iadd hx hb dX4_nextProbe_27 ?_
  refine kr_top (y := nI (σ 0 0 + 1)) (nI_1 _) ?_
  refine kgo_pi (v := nI (kNext σ i r (σ 0 0 + 1))) (kc_V (As := [.int (nI r), .int (nI (σ 0 0 + 1))]) (rest := []) S hE hS hAb (cc_next ε l hw hB hc0 hr6 (t := σ 0 0 + 1) (by omega)) (cwV 2 hts gX4_nextProbe_X1_nextMinuteFrom rfl rfl rfl (by decide +kernel) ⟨Nat.le_of_ble_eq_true rfl, Nat.le_of_ble_eq_true rfl⟩) (hw.lv 4 i hc0) rfl rfl hl.1 rfl (Nat.le_of_ble_eq_true rfl) dX4_nextProbe_28 ⟨Nat.zero_le _, Nat.zero_le _⟩) hS (fun locs hS => ?_)
  refine kend_i S hr hlocks hS ⟨rfl, rfl⟩ dX4_nextProbe_31
set_option maxHeartbeats 4000000 in
set_option maxRecDepth 100000 in
theorem cpx_nextProbe1 (ε : kEnv) (l : Launch) {A : Nat → Prop} {ad : Nat → Nat → Nat} {σ : kS} {H : Heap} {x y : Int32} (hw : kW ε A ad σ H) (hB : kB σ) (hst : l.stackTraces = false) (h : x < 0 ∨ nI (σ 2 0) ≤ x) : kX ε l yX4_nextProbe wsX4_nextProbe ({ frames := 7, cells := 1, slots := 6, locals := 120 }) [.ref (ad 0 0), .int x, .int y] H "java/lang/IndexOutOfBoundsException" := by
  refine kofX (cc := cX4_nextProbe) (maxL := 3) (ret := (some .int)) (by decide) rfl (Nat.le_of_ble_eq_true rfl) ?_
  intro p e s m below meth c ls S hr hlocks hT hH hE hl
  have S : CallFix p m c cX4_nextProbe 3 s _ wsX4_nextProbe RX4 := S
  have hx := S.1
  have hb := S.2.1
  have hown : s.vm.findClass RX4 = some m.cls := S.2.2.2.1
  have hts := S.2.2.2.2
  have hK := hE.1
  have hS : va_S kNo s.heap H [] := by rw [hH]; exact va_S.rf
  have hAb : ∀ q, kNo q → kHi ε q := fun _ h => h.elim
  have hnR := hB.nR
  have hnC := hB.nC
  have hnW := hB.nW
  have hnA := hB.nA
  have hmn := hB.min
  have hl : lv_has ls 3 [(0, .ref (ad 0 0)), (1, .int x), (2, .int y)] := hl
  refine lv_aload_n hx hb dX4_nextProbe_0 rfl (lv_at hl 0 rfl) ?_
  refine lv_iload_n hx hb dX4_nextProbe_1 rfl (lv_at hl 1 rfl) ?_
  exact kthru hT hlocks hH (kx_V (As := [.int x]) (rest := []) S hE hS hAb (cx_requireCheck ε l hw hB hst h) (cwV 1 hts gX4_nextProbe_X4_requireCheck rfl rfl rfl (by decide +kernel) ⟨Nat.le_of_ble_eq_true rfl, Nat.le_of_ble_eq_true rfl⟩) (hw.lv 0 0 (rfl : (0 : Nat) = 0)) rfl rfl hl.1 rfl (Nat.le_of_ble_eq_true rfl) dX4_nextProbe_2 ⟨Nat.le_refl _, Nat.le_refl _⟩) hS
set_option maxHeartbeats 4000000 in
set_option maxRecDepth 100000 in
theorem cpx_nextProbe2 (ε : kEnv) (l : Launch) {A : Nat → Prop} {ad : Nat → Nat → Nat} {σ : kS} {H : Heap} {i : Nat} {y : Int32} (hw : kW ε A ad σ H) (hB : kB σ) (hst : l.stackTraces = false) (hc0 : i < σ 2 0) (h : y < 0 ∨ nI (σ 1 0) ≤ y) : kX ε l yX4_nextProbe wsX4_nextProbe ({ frames := 7, cells := 1, slots := 6, locals := 120 }) [.ref (ad 0 0), .int (nI i), .int y] H "java/lang/IndexOutOfBoundsException" := by
  refine kofX (cc := cX4_nextProbe) (maxL := 3) (ret := (some .int)) (by decide) rfl (Nat.le_of_ble_eq_true rfl) ?_
  intro p e s m below meth c ls S hr hlocks hT hH hE hl
  have S : CallFix p m c cX4_nextProbe 3 s _ wsX4_nextProbe RX4 := S
  have hx := S.1
  have hb := S.2.1
  have hown : s.vm.findClass RX4 = some m.cls := S.2.2.2.1
  have hts := S.2.2.2.2
  have hK := hE.1
  have hS : va_S kNo s.heap H [] := by rw [hH]; exact va_S.rf
  have hAb : ∀ q, kNo q → kHi ε q := fun _ h => h.elim
  have hnR := hB.nR
  have hnC := hB.nC
  have hnW := hB.nW
  have hnA := hB.nA
  have hmn := hB.min
  have hl : lv_has ls 3 [(0, .ref (ad 0 0)), (1, .int (nI i)), (2, .int y)] := hl
  refine lv_aload_n hx hb dX4_nextProbe_0 rfl (lv_at hl 0 rfl) ?_
  refine lv_iload_n hx hb dX4_nextProbe_1 rfl (lv_at hl 1 rfl) ?_
  refine kgo_pv (kc_V (As := [.int (nI i)]) (rest := []) S hE hS hAb (cc_requireCheck ε l hw hB hc0) (cwV 1 hts gX4_nextProbe_X4_requireCheck rfl rfl rfl (by decide +kernel) ⟨Nat.le_of_ble_eq_true rfl, Nat.le_of_ble_eq_true rfl⟩) (hw.lv 0 0 (rfl : (0 : Nat) = 0)) rfl rfl hl.1 rfl (Nat.le_of_ble_eq_true rfl) dX4_nextProbe_2 ⟨Nat.zero_le _, Nat.zero_le _⟩) hS (fun locs hS => ?_)
  refine lv_aload_n hx hb dX4_nextProbe_5 rfl (lv_at hl 0 rfl) ?_
  refine lv_iload_n hx hb dX4_nextProbe_6 rfl (lv_at hl 2 rfl) ?_
  exact kthru hT hlocks hH (kx_V (As := [.int y]) (rest := []) S hE hS hAb (cx_requireRegion ε l hw hB hst h) (cwV 1 hts gX4_nextProbe_X4_requireRegion rfl rfl rfl (by decide +kernel) ⟨Nat.le_of_ble_eq_true rfl, Nat.le_of_ble_eq_true rfl⟩) (hw.lv 0 0 (rfl : (0 : Nat) = 0)) rfl rfl hl.1 rfl (Nat.le_of_ble_eq_true rfl) dX4_nextProbe_7 ⟨Nat.le_refl _, Nat.le_refl _⟩) hS
theorem kin_X4_failing_X4 : ∀ w ∈ wsX40, w ∈ wsX4_failing := by decide +kernel
set_option maxHeartbeats 4000000 in
set_option maxRecDepth 100000 in
theorem cp_failing (ε : kEnv) (l : Launch) {A : Nat → Prop} {ad : Nat → Nat → Nat} {σ : kS} {H : Heap} {i : Nat} (hw : kW ε A ad σ H) (hB : kB σ) (hc0 : i < σ 2 0) : kPi ε l yX4_failing wsX4_failing ({ frames := 5, cells := 0, slots := 0, locals := 120 }) [.ref (ad 0 0), .int (nI i)] H (nI (kFm σ i (σ 1 0))) := by
  refine kof (cc := cX4_failing) (maxL := 4) (ret := (some .int)) (by decide) rfl (Nat.le_of_ble_eq_true rfl) ?_
  intro p e s m below meth c ls S hr hlocks hin hH hE hl
  have S : CallFix p m c cX4_failing 4 s _ wsX4_failing RX4 := S
  have hx := S.1
  have hb := S.2.1
  have hown : s.vm.findClass RX4 = some m.cls := S.2.2.2.1
  have hts := S.2.2.2.2
  have hK := hE.1
  have hS : va_S kNo s.heap H [] := by rw [hH]; exact va_S.rf
  have hAb : ∀ q, kNo q → kHi ε q := fun _ h => h.elim
  have hnR := hB.nR
  have hnC := hB.nC
  have hnW := hB.nW
  have hnA := hB.nA
  have hmn := hB.min
  have hl : lv_has ls 4 [(0, .ref (ad 0 0)), (1, .int (nI i))] := hl
  refine lv_aload_n hx hb dX4_failing_0 rfl (lv_at hl 0 rfl) ?_
  refine lv_iload_n hx hb dX4_failing_1 rfl (lv_at hl 1 rfl) ?_
  refine kgo_pv (kc_V (As := [.int (nI i)]) (rest := []) S hE hS hAb (cc_requireCheck ε l hw hB hc0) (cwV 1 hts gX4_failing_X4_requireCheck rfl rfl rfl (by decide +kernel) ⟨Nat.le_of_ble_eq_true rfl, Nat.le_of_ble_eq_true rfl⟩) (hw.lv 0 0 (rfl : (0 : Nat) = 0)) rfl rfl hl.1 rfl (Nat.le_of_ble_eq_true rfl) dX4_failing_2 ⟨Nat.zero_le _, Nat.zero_le _⟩) hS (fun locs hS => ?_)
  refine lv_iconst (v := 0) hx hb dX4_failing_5 (by decide) ?_
  refine lv_istore_n (lv' := [(2, .int 0), (0, .ref (ad 0 0)), (1, .int (nI i))]) hx hb dX4_failing_6 rfl hl (by decide) rfl (fun ls hl => ?_)
  refine lv_iconst (v := 0) hx hb dX4_failing_7 (by decide) ?_
  refine lv_istore_n (lv' := [(3, .int 0), (2, .int 0), (0, .ref (ad 0 0)), (1, .int (nI i))]) hx hb dX4_failing_8 rfl hl (by decide) rfl (fun ls hl => ?_)
  suffices K : ∀ (n k : Nat) (locs : List Loc) (ls : Array Slot), k + n = σ 1 0 → va_S kNo s.heap H locs → lv_has ls 4 [(3, .int (nI k)), (2, .int (nI (kFm σ i k))), (1, .int (nI i)), (0, .ref (ad 0 0))] → W p l e ({ frames := 5, cells := 0, slots := 0, locals := 120 }) s m [.ref (ad 0 0), .int (nI i)].toArray below meth c H locs 0 0 (MQ below (kQi (fun r9 H9 => r9 = nI (kFm σ i (σ 1 0)) ∧ H9 = H) kNo) [.ref (ad 0 0), .int (nI i)].toArray s 0 0 kNo) (F0 m 9 ls []) from K (σ 1 0) 0 _ _ (Nat.zero_add _) hS (lv_sub hl [0, 1, 3, 2] rfl)
  clear hl hS
  intro n
  induction n with
  | zero =>
    intro k locs ls hkn  hS hl
    have hkN : k = σ 1 0 := hkn
    clear hkn
    refine lv_iload_n hx hb dX4_failing_9 rfl (lv_at hl 0 rfl) ?_
    refine lv_aload_n hx hb dX4_failing_10 rfl (lv_at hl 3 rfl) ?_
    refine kr_get (T := TX4) (N := 7) hx hb hts hown hK (hw.lv 0 0 (rfl : (0 : Nat) = 0)) rfl kin_X4_failing_X4 0 (by decide) (by decide +kernel) rfl dX4_failing_11 ?_
    refine kgo_pi (v := nI (σ 1 0)) (kc_V (As := []) (rest := [.int (nI k)]) S hE hS hAb (kw_size l hw 0 (by decide)) (cwV 0 hts gX4_failing_Jx4a65c_size_8abf5 rfl rfl rfl (by decide +kernel) ⟨Nat.le_of_ble_eq_true rfl, Nat.le_of_ble_eq_true rfl⟩) (hw.lv 1 0 (by decide : (0 : Nat) < 4)) rfl rfl hl.1 rfl (Nat.le_of_ble_eq_true rfl) dX4_failing_14 ⟨Nat.zero_le _, Nat.zero_le _⟩) hS (fun locs hS => ?_)
    refine lv_icmp_ge (tgt := 58) hx hb dX4_failing_17 (by decide) (fun _ => ?_) (fun hc => absurd (by rw [hkN]; exact Int32.le_refl _) hc)
    refine lv_iload_n hx hb dX4_failing_58 rfl (lv_at hl 1 rfl) ?_
    refine kend_i S hr hlocks hS ⟨by rw [hkN], rfl⟩ dX4_failing_59
  | succ n ih =>
    intro k locs ls hkn  hS hl
    have hlt : k < σ 1 0 := by omega
    have h6 := hB.r6 hlt
    refine lv_iload_n hx hb dX4_failing_9 rfl (lv_at hl 0 rfl) ?_
    refine lv_aload_n hx hb dX4_failing_10 rfl (lv_at hl 3 rfl) ?_
    refine kr_get (T := TX4) (N := 7) hx hb hts hown hK (hw.lv 0 0 (rfl : (0 : Nat) = 0)) rfl kin_X4_failing_X4 0 (by decide) (by decide +kernel) rfl dX4_failing_11 ?_
    refine kgo_pi (v := nI (σ 1 0)) (kc_V (As := []) (rest := [.int (nI k)]) S hE hS hAb (kw_size l hw 0 (by decide)) (cwV 0 hts gX4_failing_Jx4a65c_size_8abf5 rfl rfl rfl (by decide +kernel) ⟨Nat.le_of_ble_eq_true rfl, Nat.le_of_ble_eq_true rfl⟩) (hw.lv 1 0 (by decide : (0 : Nat) < 4)) rfl rfl hl.1 rfl (Nat.le_of_ble_eq_true rfl) dX4_failing_14 ⟨Nat.zero_le _, Nat.zero_le _⟩) hS (fun locs hS => ?_)
    refine lv_icmp_ge (tgt := 58) hx hb dX4_failing_17 (by decide) (fun hc => absurd hc (nI_ge hlt (by omega))) (fun _ => ?_)
    refine lv_iload_n hx hb dX4_failing_20 rfl (lv_at hl 1 rfl) ?_
    refine lv_iload_n hx hb dX4_failing_21 rfl (lv_at hl 0 rfl) ?_
    refine lv_aload_n hx hb dX4_failing_22 rfl (lv_at hl 3 rfl) ?_
    refine lv_aload_n hx hb dX4_failing_23 rfl (lv_at hl 3 rfl) ?_
    refine kr_get (T := TX4) (N := 7) hx hb hts hown hK (hw.lv 0 0 (rfl : (0 : Nat) = 0)) rfl kin_X4_failing_X4 1 (by decide) (by decide +kernel) rfl dX4_failing_24 ?_
    refine lv_iload_n hx hb dX4_failing_27 rfl (lv_at hl 2 rfl) ?_
    refine kgo_pr (v := ad 4 i) (kc_V (As := [.int (nI i)]) (rest := [.ref (ad 0 0), .int (nI k), .int (nI (kFm σ i k))]) S hE hS hAb (kw_get l hw hB 1 (by decide) (j := i) (x := ad 4 i) hc0 rfl) (cwV 1 hts gX4_failing_Jx4a65c_get_915e3 rfl rfl rfl (by decide +kernel) ⟨Nat.le_of_ble_eq_true rfl, Nat.le_of_ble_eq_true rfl⟩) (hw.lv 1 1 (by decide : (1 : Nat) < 4)) rfl rfl hl.1 rfl (Nat.le_of_ble_eq_true rfl) dX4_failing_28 ⟨Nat.zero_le _, Nat.zero_le _⟩) hS (fun locs hS => ?_)
    refine kr_cast (T := TX1) (N := 13) hx hb hts hown hK (hw.lv 4 i hc0) rfl (by decide +kernel) dX4_failing_31 ?_
    refine lv_aload_n hx hb dX4_failing_34 rfl (lv_at hl 3 rfl) ?_
    refine kr_get (T := TX4) (N := 7) hx hb hts hown hK (hw.lv 0 0 (rfl : (0 : Nat) = 0)) rfl kin_X4_failing_X4 0 (by decide) (by decide +kernel) rfl dX4_failing_35 ?_
    refine lv_iload_n hx hb dX4_failing_38 rfl (lv_at hl 0 rfl) ?_
    refine kgo_pr (v := ad 3 k) (kc_V (As := [.int (nI k)]) (rest := [.ref (ad 4 i), .ref (ad 0 0), .int (nI k), .int (nI (kFm σ i k))]) S hE hS hAb (kw_get l hw hB 0 (by decide) (j := k) (x := ad 3 k) hlt rfl) (cwV 1 hts gX4_failing_Jx4a65c_get_915e3 rfl rfl rfl (by decide +kernel) ⟨Nat.le_of_ble_eq_true rfl, Nat.le_of_ble_eq_true rfl⟩) (hw.lv 1 0 (by decide : (0 : Nat) < 4)) rfl rfl hl.1 rfl (Nat.le_of_ble_eq_true rfl) dX4_failing_39 ⟨Nat.zero_le _, Nat.zero_le _⟩) hS (fun locs hS => ?_)
    refine kr_cast (T := TX2) (N := 4) hx hb hts hown hK (hw.lv 3 k hlt) rfl (by decide +kernel) dX4_failing_42 ?_
    refine kgo_pi (v := bI (kfail σ i k)) (kc_V (As := [.ref (ad 4 i), .ref (ad 3 k)]) (rest := [.int (nI k), .int (nI (kFm σ i k))]) S hE hS hAb (cc_wouldFail ε l hw hB hc0 hlt) (cwV 2 hts gX4_failing_X4_wouldFail rfl rfl rfl (by decide +kernel) ⟨Nat.le_of_ble_eq_true rfl, Nat.le_of_ble_eq_true rfl⟩) (hw.lv 0 0 (rfl : (0 : Nat) = 0)) rfl rfl hl.1 rfl (Nat.le_of_ble_eq_true rfl) dX4_failing_45 ⟨Nat.zero_le _, Nat.zero_le _⟩) hS (fun locs hS => ?_)
    refine kgo_pi (v := nI (kFm σ i (k + 1))) (kc_S (As := [.int (nI (kFm σ i k)), .int (nI k), .int (bI (kfail σ i k))]) (rest := []) S hE hS hAb (cc_with ε l (b := kfail σ i k) (kFm_lt σ i k (by omega)) h6) (va_cwS 3 hts gX4_failing_X4_withRegion rfl rfl rfl (by decide +kernel) ⟨Nat.le_of_ble_eq_true rfl, Nat.le_of_ble_eq_true rfl⟩) rfl hl.1 rfl (Nat.le_of_ble_eq_true rfl) dX4_failing_48 ⟨Nat.zero_le _, Nat.zero_le _⟩) hS (fun locs hS => ?_)
    refine lv_istore_n (lv' := [(2, .int (nI (kFm σ i (k + 1)))), (3, .int (nI k)), (1, .int (nI i)), (0, .ref (ad 0 0))]) hx hb dX4_failing_51 rfl hl (by decide) rfl (fun ls hl => ?_)
    refine lv_iinc (v := nI (k + 1)) (lv' := [(3, .int (nI (k + 1))), (2, .int (nI (kFm σ i (k + 1)))), (1, .int (nI i)), (0, .ref (ad 0 0))]) hx hb dX4_failing_52 hl (k := 1) rfl (nI_1 k) (by decide) rfl (fun ls hl => ?_)
    refine lv_goto (tgt := 9) hx hb dX4_failing_55 (by decide) ?_
    exact ih (k + 1) _ _ (by omega) hS (lv_sub hl [0, 1, 2, 3] rfl)
set_option maxHeartbeats 4000000 in
set_option maxRecDepth 100000 in
theorem cpx_failing (ε : kEnv) (l : Launch) {A : Nat → Prop} {ad : Nat → Nat → Nat} {σ : kS} {H : Heap} {x : Int32} (hw : kW ε A ad σ H) (hB : kB σ) (hst : l.stackTraces = false) (h : x < 0 ∨ nI (σ 2 0) ≤ x) : kX ε l yX4_failing wsX4_failing ({ frames := 7, cells := 1, slots := 6, locals := 120 }) [.ref (ad 0 0), .int x] H "java/lang/IndexOutOfBoundsException" := by
  refine kofX (cc := cX4_failing) (maxL := 4) (ret := (some .int)) (by decide) rfl (Nat.le_of_ble_eq_true rfl) ?_
  intro p e s m below meth c ls S hr hlocks hT hH hE hl
  have S : CallFix p m c cX4_failing 4 s _ wsX4_failing RX4 := S
  have hx := S.1
  have hb := S.2.1
  have hown : s.vm.findClass RX4 = some m.cls := S.2.2.2.1
  have hts := S.2.2.2.2
  have hK := hE.1
  have hS : va_S kNo s.heap H [] := by rw [hH]; exact va_S.rf
  have hAb : ∀ q, kNo q → kHi ε q := fun _ h => h.elim
  have hnR := hB.nR
  have hnC := hB.nC
  have hnW := hB.nW
  have hnA := hB.nA
  have hmn := hB.min
  have hl : lv_has ls 4 [(0, .ref (ad 0 0)), (1, .int x)] := hl
  refine lv_aload_n hx hb dX4_failing_0 rfl (lv_at hl 0 rfl) ?_
  refine lv_iload_n hx hb dX4_failing_1 rfl (lv_at hl 1 rfl) ?_
  exact kthru hT hlocks hH (kx_V (As := [.int x]) (rest := []) S hE hS hAb (cx_requireCheck ε l hw hB hst h) (cwV 1 hts gX4_failing_X4_requireCheck rfl rfl rfl (by decide +kernel) ⟨Nat.le_of_ble_eq_true rfl, Nat.le_of_ble_eq_true rfl⟩) (hw.lv 0 0 (rfl : (0 : Nat) = 0)) rfl rfl hl.1 rfl (Nat.le_of_ble_eq_true rfl) dX4_failing_2 ⟨Nat.le_refl _, Nat.le_refl _⟩) hS
