/-! ===== the reference's public methods, the short ones ===== -/
theorem nI_mul (a b : Nat) : nI a * nI b = nI (a * b) := (Int32.ofNat_mul a b).symm
theorem mI_neg {v : Nat} (h : v ≤ 2 ^ 30) : mI v < 0 ↔ v = 0 := by
  cases v with
  | zero => exact ⟨fun _ => rfl, fun _ => by decide⟩
  | succ v => exact ⟨fun q => absurd q (nI_pos (by omega)), fun q => by omega⟩
set_option maxHeartbeats 4000000 in
set_option maxRecDepth 100000 in
theorem cm_minute (ε : kEnv) (l : Launch) {A : Nat → Prop} {bd : Nat → Nat} {τ : kS} {H : Heap} (hAb : ∀ q, A q → kHi ε q) (hm : kM ε A bd τ H) (hB : mB τ) : kMi ε l yX5_minute wsX5_minute ({ frames := 6, cells := 0, slots := 0, locals := 140 }) [.ref (bd 0)] H A (0) (0) (fun v9 H' => v9 = nI (τ 30 0) ∧ kM ε A bd (mT τ 0) H') := by
  refine kof (cc := cX5_minute) (maxL := 1) (ret := (some .int)) (by decide) rfl (Nat.le_of_ble_eq_true rfl) ?_
  intro p e s m below meth c ls S hr hlocks hin hH hE hl
  have S : CallFix p m c cX5_minute 1 s _ wsX5_minute RX5 := S
  have hx := S.1
  have hb := S.2.1
  have hown : s.vm.findClass RX5 = some m.cls := S.2.2.2.1
  have hts := S.2.2.2.2
  have hK := hE.1
  have hS : va_S A s.heap H [] := by rw [hH]; exact va_S.rf
  have hl : lv_has ls 1 [(0, .ref (bd 0))] := hl
  have hnR := hB.nR
  have hnC := hB.nC
  have hnW := hB.nW
  have hnA := hB.nA
  have hmn := hB.min
  refine lv_aload_n hx hb dX5_minute_0 rfl (lv_at hl 0 rfl) ?_
  refine lv_iconst (v := 0) hx hb dX5_minute_1 (by decide) ?_
  refine kr_top (y := nI 0) (rfl) ?_
  refine kr_put (T := TX5) (N := 28) (v := .int (nI 0)) (ty := .int) hx hb hts hown hK hS (hm.lv 0 (by decide)) (hm.1 0 (by decide)).2 rfl kin_X5_minute_X5 tyX5 tyX5_ok nmX5 27 (by decide) "ProbewebModel" (hts (.fieldLink RX5 78 "ProbewebModel" "thrown" "I") (by decide +kernel)) (fun _ h => h) rfl (by decide +kernel) rfl rfl (Nat.le_of_ble_eq_true rfl) dX5_minute_2 (fun H1 locs hU ho hS => ?_)
  have hm := km_p35 (v := 0) hm hU ho
  clear hU ho
  have hB : mB (mT τ 0) := hB
  refine lv_aload_n hx hb dX5_minute_5 rfl (lv_at hl 0 rfl) ?_
  refine kr_get (T := TX5) (N := 28) hx hb hts hown hK (hm.lv 0 (by decide)) rfl kin_X5_minute_X5 0 (by decide) (by decide +kernel) rfl dX5_minute_6 ?_
  refine kend_i S hr hlocks hS ⟨rfl, hm⟩ dX5_minute_9
set_option maxHeartbeats 4000000 in
set_option maxRecDepth 100000 in
theorem cm_alarms (ε : kEnv) (l : Launch) {A : Nat → Prop} {bd : Nat → Nat} {τ : kS} {H : Heap} (hAb : ∀ q, A q → kHi ε q) (hm : kM ε A bd τ H) (hB : mB τ) : kMi ε l yX5_alarms wsX5_alarms ({ frames := 6, cells := 0, slots := 0, locals := 140 }) [.ref (bd 0)] H A (0) (0) (fun v9 H' => v9 = nI (τ 34 0) ∧ kM ε A bd (mT τ 0) H') := by
  refine kof (cc := cX5_alarms) (maxL := 1) (ret := (some .int)) (by decide) rfl (Nat.le_of_ble_eq_true rfl) ?_
  intro p e s m below meth c ls S hr hlocks hin hH hE hl
  have S : CallFix p m c cX5_alarms 1 s _ wsX5_alarms RX5 := S
  have hx := S.1
  have hb := S.2.1
  have hown : s.vm.findClass RX5 = some m.cls := S.2.2.2.1
  have hts := S.2.2.2.2
  have hK := hE.1
  have hS : va_S A s.heap H [] := by rw [hH]; exact va_S.rf
  have hl : lv_has ls 1 [(0, .ref (bd 0))] := hl
  have hnR := hB.nR
  have hnC := hB.nC
  have hnW := hB.nW
  have hnA := hB.nA
  have hmn := hB.min
  refine lv_aload_n hx hb dX5_alarms_0 rfl (lv_at hl 0 rfl) ?_
  refine lv_iconst (v := 0) hx hb dX5_alarms_1 (by decide) ?_
  refine kr_top (y := nI 0) (rfl) ?_
  refine kr_put (T := TX5) (N := 28) (v := .int (nI 0)) (ty := .int) hx hb hts hown hK hS (hm.lv 0 (by decide)) (hm.1 0 (by decide)).2 rfl kin_X5_alarms_X5 tyX5 tyX5_ok nmX5 27 (by decide) "ProbewebModel" (hts (.fieldLink RX5 78 "ProbewebModel" "thrown" "I") (by decide +kernel)) (fun _ h => h) rfl (by decide +kernel) rfl rfl (Nat.le_of_ble_eq_true rfl) dX5_alarms_2 (fun H1 locs hU ho hS => ?_)
  have hm := km_p35 (v := 0) hm hU ho
  clear hU ho
  have hB : mB (mT τ 0) := hB
  refine lv_aload_n hx hb dX5_alarms_5 rfl (lv_at hl 0 rfl) ?_
  refine kr_get (T := TX5) (N := 28) hx hb hts hown hK (hm.lv 0 (by decide)) rfl kin_X5_alarms_X5 24 (by decide) (by decide +kernel) rfl dX5_alarms_6 ?_
  refine kend_i S hr hlocks hS ⟨rfl, hm⟩ dX5_alarms_9
theorem kin_X5_probes_X5 : ∀ w ∈ wsX50, w ∈ wsX5_probes := by decide +kernel
set_option maxHeartbeats 4000000 in
set_option maxRecDepth 100000 in
theorem cm_probes (ε : kEnv) (l : Launch) {A : Nat → Prop} {bd : Nat → Nat} {τ : kS} {H : Heap} {i : Nat} (hAb : ∀ q, A q → kHi ε q) (hm : kM ε A bd τ H) (hB : mB τ) (hi : i < τ 31 0) : kMi ε l yX5_probes wsX5_probes ({ frames := 6, cells := 0, slots := 0, locals := 140 }) [.ref (bd 0), .int (nI i)] H A (0) (0) (fun v9 H' => v9 = nI (τ 4 i) ∧ kM ε A bd (mT τ 0) H') := by
  refine kof (cc := cX5_probes) (maxL := 2) (ret := (some .int)) (by decide) rfl (Nat.le_of_ble_eq_true rfl) ?_
  intro p e s m below meth c ls S hr hlocks hin hH hE hl
  have S : CallFix p m c cX5_probes 2 s _ wsX5_probes RX5 := S
  have hx := S.1
  have hb := S.2.1
  have hown : s.vm.findClass RX5 = some m.cls := S.2.2.2.1
  have hts := S.2.2.2.2
  have hK := hE.1
  have hS : va_S A s.heap H [] := by rw [hH]; exact va_S.rf
  have hl : lv_has ls 2 [(0, .ref (bd 0)), (1, .int (nI i))] := hl
  have hnR := hB.nR
  have hnC := hB.nC
  have hnW := hB.nW
  have hnA := hB.nA
  have hmn := hB.min
  refine lv_aload_n hx hb dX5_probes_0 rfl (lv_at hl 0 rfl) ?_
  refine lv_aload_n hx hb dX5_probes_1 rfl (lv_at hl 0 rfl) ?_
  refine lv_iload_n hx hb dX5_probes_2 rfl (lv_at hl 1 rfl) ?_
  refine kgo_pi (v := 1) (kc_V (As := [.int (nI i)]) (rest := [.ref (bd 0)]) S hE hS hAb (cm_isRegionT ε l hm hB hi) (cwV 1 hts gX5_probes_X5_isRegion rfl rfl rfl (by decide +kernel) ⟨Nat.le_of_ble_eq_true rfl, Nat.le_of_ble_eq_true rfl⟩) (hm.lv 0 (by decide)) rfl rfl hl.1 rfl (Nat.le_of_ble_eq_true rfl) dX5_probes_3 ⟨Nat.zero_le _, Nat.zero_le _⟩) hS (fun locs hS => ?_)
  refine lv_if_eq (tgt := 13) hx hb dX5_probes_6 (by decide) (fun hc => absurd hc (by decide)) (fun _ => ?_)
  refine lv_iconst (v := 0) hx hb dX5_probes_9 (by decide) ?_
  refine lv_goto (tgt := 14) hx hb dX5_probes_10 (by decide) ?_
  refine kr_top (y := nI 0) (rfl) ?_
  refine kr_put (T := TX5) (N := 28) (v := .int (nI 0)) (ty := .int) hx hb hts hown hK hS (hm.lv 0 (by decide)) (hm.1 0 (by decide)).2 rfl kin_X5_probes_X5 tyX5 tyX5_ok nmX5 27 (by decide) "ProbewebModel" (hts (.fieldLink RX5 78 "ProbewebModel" "thrown" "I") (by decide +kernel)) (fun _ h => h) rfl (by decide +kernel) rfl rfl (Nat.le_of_ble_eq_true rfl) dX5_probes_14 (fun H1 locs hU ho hS => ?_)
  have hm := km_p35 (v := 0) hm hU ho
  clear hU ho
  have hB : mB (mT τ 0) := hB
  refine lv_aload_n hx hb dX5_probes_17 rfl (lv_at hl 0 rfl) ?_
  refine kr_get (T := TX5) (N := 28) hx hb hts hown hK (hm.lv 0 (by decide)) rfl kin_X5_probes_X5 27 (by decide) (by decide +kernel) rfl dX5_probes_18 ?_
  refine kr_top (y := 0) (rfl) ?_
  refine lv_if_le (tgt := 28) hx hb dX5_probes_21 (by decide) (fun _ => ?_) (fun hc => absurd (by decide) hc)
  refine lv_aload_n hx hb dX5_probes_28 rfl (lv_at hl 0 rfl) ?_
  refine kr_get (T := TX5) (N := 28) hx hb hts hown hK (hm.lv 0 (by decide)) rfl kin_X5_probes_X5 5 (by decide) (by decide +kernel) rfl dX5_probes_29 ?_
  refine lv_iload_n hx hb dX5_probes_32 rfl (lv_at hl 1 rfl) ?_
  refine kr_ild hx hb hK (hm.lv 4 (by decide)) (j := i) ((show i < 6 by omega)) (nI_clamp (ks31 ((show i < 6 by omega)))) (nI_pos (ks31 ((show i < 6 by omega)))) (x := nI ((ku τ 35 0 0) 4 i)) rfl dX5_probes_33 ?_
  refine kend_i S hr hlocks hS ⟨rfl, hm⟩ dX5_probes_34
set_option maxHeartbeats 4000000 in
set_option maxRecDepth 100000 in
theorem cm_probesX (ε : kEnv) (l : Launch) {A : Nat → Prop} {bd : Nat → Nat} {τ : kS} {H : Heap} {x : Int32} (hAb : ∀ q, A q → kHi ε q) (hm : kM ε A bd τ H) (hB : mB τ) (h : x < 0 ∨ nI (τ 31 0) ≤ x) : kMi ε l yX5_probes wsX5_probes ({ frames := 6, cells := 0, slots := 0, locals := 140 }) [.ref (bd 0), .int x] H A (0) (0) (fun v9 H' => v9 = 0 ∧ kM ε A bd (mT τ 1) H') := by
  refine kof (cc := cX5_probes) (maxL := 2) (ret := (some .int)) (by decide) rfl (Nat.le_of_ble_eq_true rfl) ?_
  intro p e s m below meth c ls S hr hlocks hin hH hE hl
  have S : CallFix p m c cX5_probes 2 s _ wsX5_probes RX5 := S
  have hx := S.1
  have hb := S.2.1
  have hown : s.vm.findClass RX5 = some m.cls := S.2.2.2.1
  have hts := S.2.2.2.2
  have hK := hE.1
  have hS : va_S A s.heap H [] := by rw [hH]; exact va_S.rf
  have hl : lv_has ls 2 [(0, .ref (bd 0)), (1, .int x)] := hl
  have hnR := hB.nR
  have hnC := hB.nC
  have hnW := hB.nW
  have hnA := hB.nA
  have hmn := hB.min
  refine lv_aload_n hx hb dX5_probes_0 rfl (lv_at hl 0 rfl) ?_
  refine lv_aload_n hx hb dX5_probes_1 rfl (lv_at hl 0 rfl) ?_
  refine lv_iload_n hx hb dX5_probes_2 rfl (lv_at hl 1 rfl) ?_
  refine kgo_pi (v := 0) (kc_V (As := [.int x]) (rest := [.ref (bd 0)]) S hE hS hAb (cm_isRegionF ε l hm hB h) (cwV 1 hts gX5_probes_X5_isRegion rfl rfl rfl (by decide +kernel) ⟨Nat.le_of_ble_eq_true rfl, Nat.le_of_ble_eq_true rfl⟩) (hm.lv 0 (by decide)) rfl rfl hl.1 rfl (Nat.le_of_ble_eq_true rfl) dX5_probes_3 ⟨Nat.zero_le _, Nat.zero_le _⟩) hS (fun locs hS => ?_)
  refine lv_if_eq (tgt := 13) hx hb dX5_probes_6 (by decide) (fun _ => ?_) (fun hc => absurd (by decide) hc)
  refine lv_iconst (v := 1) hx hb dX5_probes_13 (by decide) ?_
  refine kr_top (y := nI 1) (rfl) ?_
  refine kr_put (T := TX5) (N := 28) (v := .int (nI 1)) (ty := .int) hx hb hts hown hK hS (hm.lv 0 (by decide)) (hm.1 0 (by decide)).2 rfl kin_X5_probes_X5 tyX5 tyX5_ok nmX5 27 (by decide) "ProbewebModel" (hts (.fieldLink RX5 78 "ProbewebModel" "thrown" "I") (by decide +kernel)) (fun _ h => h) rfl (by decide +kernel) rfl rfl (Nat.le_of_ble_eq_true rfl) dX5_probes_14 (fun H1 locs hU ho hS => ?_)
  have hm := km_p35 (v := 1) hm hU ho
  clear hU ho
  have hB : mB (mT τ 1) := hB
  refine lv_aload_n hx hb dX5_probes_17 rfl (lv_at hl 0 rfl) ?_
  refine kr_get (T := TX5) (N := 28) hx hb hts hown hK (hm.lv 0 (by decide)) rfl kin_X5_probes_X5 27 (by decide) (by decide +kernel) rfl dX5_probes_18 ?_
  refine kr_top (y := 1) (rfl) ?_
  refine lv_if_le (tgt := 28) hx hb dX5_probes_21 (by decide) (fun hc => absurd hc (by decide)) (fun _ => ?_)
  refine lv_iconst (v := 0) hx hb dX5_probes_24 (by decide) ?_
  refine lv_goto (tgt := 34) hx hb dX5_probes_25 (by decide) ?_
  refine kend_i S hr hlocks hS ⟨rfl, hm⟩ dX5_probes_34
theorem kin_X5_failures_X5 : ∀ w ∈ wsX50, w ∈ wsX5_failures := by decide +kernel
set_option maxHeartbeats 4000000 in
set_option maxRecDepth 100000 in
theorem cm_failures (ε : kEnv) (l : Launch) {A : Nat → Prop} {bd : Nat → Nat} {τ : kS} {H : Heap} {i : Nat} (hAb : ∀ q, A q → kHi ε q) (hm : kM ε A bd τ H) (hB : mB τ) (hi : i < τ 31 0) : kMi ε l yX5_failures wsX5_failures ({ frames := 6, cells := 0, slots := 0, locals := 140 }) [.ref (bd 0), .int (nI i)] H A (0) (0) (fun v9 H' => v9 = nI (τ 5 i) ∧ kM ε A bd (mT τ 0) H') := by
  refine kof (cc := cX5_failures) (maxL := 2) (ret := (some .int)) (by decide) rfl (Nat.le_of_ble_eq_true rfl) ?_
  intro p e s m below meth c ls S hr hlocks hin hH hE hl
  have S : CallFix p m c cX5_failures 2 s _ wsX5_failures RX5 := S
  have hx := S.1
  have hb := S.2.1
  have hown : s.vm.findClass RX5 = some m.cls := S.2.2.2.1
  have hts := S.2.2.2.2
  have hK := hE.1
  have hS : va_S A s.heap H [] := by rw [hH]; exact va_S.rf
  have hl : lv_has ls 2 [(0, .ref (bd 0)), (1, .int (nI i))] := hl
  have hnR := hB.nR
  have hnC := hB.nC
  have hnW := hB.nW
  have hnA := hB.nA
  have hmn := hB.min
  refine lv_aload_n hx hb dX5_failures_0 rfl (lv_at hl 0 rfl) ?_
  refine lv_aload_n hx hb dX5_failures_1 rfl (lv_at hl 0 rfl) ?_
  refine lv_iload_n hx hb dX5_failures_2 rfl (lv_at hl 1 rfl) ?_
  refine kgo_pi (v := 1) (kc_V (As := [.int (nI i)]) (rest := [.ref (bd 0)]) S hE hS hAb (cm_isRegionT ε l hm hB hi) (cwV 1 hts gX5_failures_X5_isRegion rfl rfl rfl (by decide +kernel) ⟨Nat.le_of_ble_eq_true rfl, Nat.le_of_ble_eq_true rfl⟩) (hm.lv 0 (by decide)) rfl rfl hl.1 rfl (Nat.le_of_ble_eq_true rfl) dX5_failures_3 ⟨Nat.zero_le _, Nat.zero_le _⟩) hS (fun locs hS => ?_)
  refine lv_if_eq (tgt := 13) hx hb dX5_failures_6 (by decide) (fun hc => absurd hc (by decide)) (fun _ => ?_)
  refine lv_iconst (v := 0) hx hb dX5_failures_9 (by decide) ?_
  refine lv_goto (tgt := 14) hx hb dX5_failures_10 (by decide) ?_
  refine kr_top (y := nI 0) (rfl) ?_
  refine kr_put (T := TX5) (N := 28) (v := .int (nI 0)) (ty := .int) hx hb hts hown hK hS (hm.lv 0 (by decide)) (hm.1 0 (by decide)).2 rfl kin_X5_failures_X5 tyX5 tyX5_ok nmX5 27 (by decide) "ProbewebModel" (hts (.fieldLink RX5 78 "ProbewebModel" "thrown" "I") (by decide +kernel)) (fun _ h => h) rfl (by decide +kernel) rfl rfl (Nat.le_of_ble_eq_true rfl) dX5_failures_14 (fun H1 locs hU ho hS => ?_)
  have hm := km_p35 (v := 0) hm hU ho
  clear hU ho
  have hB : mB (mT τ 0) := hB
  refine lv_aload_n hx hb dX5_failures_17 rfl (lv_at hl 0 rfl) ?_
  refine kr_get (T := TX5) (N := 28) hx hb hts hown hK (hm.lv 0 (by decide)) rfl kin_X5_failures_X5 27 (by decide) (by decide +kernel) rfl dX5_failures_18 ?_
  refine kr_top (y := 0) (rfl) ?_
  refine lv_if_le (tgt := 28) hx hb dX5_failures_21 (by decide) (fun _ => ?_) (fun hc => absurd (by decide) hc)
  refine lv_aload_n hx hb dX5_failures_28 rfl (lv_at hl 0 rfl) ?_
  refine kr_get (T := TX5) (N := 28) hx hb hts hown hK (hm.lv 0 (by decide)) rfl kin_X5_failures_X5 6 (by decide) (by decide +kernel) rfl dX5_failures_29 ?_
  refine lv_iload_n hx hb dX5_failures_32 rfl (lv_at hl 1 rfl) ?_
  refine kr_ild hx hb hK (hm.lv 5 (by decide)) (j := i) ((show i < 6 by omega)) (nI_clamp (ks31 ((show i < 6 by omega)))) (nI_pos (ks31 ((show i < 6 by omega)))) (x := nI ((ku τ 35 0 0) 5 i)) rfl dX5_failures_33 ?_
  refine kend_i S hr hlocks hS ⟨rfl, hm⟩ dX5_failures_34
set_option maxHeartbeats 4000000 in
set_option maxRecDepth 100000 in
theorem cm_failuresX (ε : kEnv) (l : Launch) {A : Nat → Prop} {bd : Nat → Nat} {τ : kS} {H : Heap} {x : Int32} (hAb : ∀ q, A q → kHi ε q) (hm : kM ε A bd τ H) (hB : mB τ) (h : x < 0 ∨ nI (τ 31 0) ≤ x) : kMi ε l yX5_failures wsX5_failures ({ frames := 6, cells := 0, slots := 0, locals := 140 }) [.ref (bd 0), .int x] H A (0) (0) (fun v9 H' => v9 = 0 ∧ kM ε A bd (mT τ 1) H') := by
  refine kof (cc := cX5_failures) (maxL := 2) (ret := (some .int)) (by decide) rfl (Nat.le_of_ble_eq_true rfl) ?_
  intro p e s m below meth c ls S hr hlocks hin hH hE hl
  have S : CallFix p m c cX5_failures 2 s _ wsX5_failures RX5 := S
  have hx := S.1
  have hb := S.2.1
  have hown : s.vm.findClass RX5 = some m.cls := S.2.2.2.1
  have hts := S.2.2.2.2
  have hK := hE.1
  have hS : va_S A s.heap H [] := by rw [hH]; exact va_S.rf
  have hl : lv_has ls 2 [(0, .ref (bd 0)), (1, .int x)] := hl
  have hnR := hB.nR
  have hnC := hB.nC
  have hnW := hB.nW
  have hnA := hB.nA
  have hmn := hB.min
  refine lv_aload_n hx hb dX5_failures_0 rfl (lv_at hl 0 rfl) ?_
  refine lv_aload_n hx hb dX5_failures_1 rfl (lv_at hl 0 rfl) ?_
  refine lv_iload_n hx hb dX5_failures_2 rfl (lv_at hl 1 rfl) ?_
  refine kgo_pi (v := 0) (kc_V (As := [.int x]) (rest := [.ref (bd 0)]) S hE hS hAb (cm_isRegionF ε l hm hB h) (cwV 1 hts gX5_failures_X5_isRegion rfl rfl rfl (by decide +kernel) ⟨Nat.le_of_ble_eq_true rfl, Nat.le_of_ble_eq_true rfl⟩) (hm.lv 0 (by decide)) rfl rfl hl.1 rfl (Nat.le_of_ble_eq_true rfl) dX5_failures_3 ⟨Nat.zero_le _, Nat.zero_le _⟩) hS (fun locs hS => ?_)
  refine lv_if_eq (tgt := 13) hx hb dX5_failures_6 (by decide) (fun _ => ?_) (fun hc => absurd (by decide) hc)
  refine lv_iconst (v := 1) hx hb dX5_failures_13 (by decide) ?_
  refine kr_top (y := nI 1) (rfl) ?_
  refine kr_put (T := TX5) (N := 28) (v := .int (nI 1)) (ty := .int) hx hb hts hown hK hS (hm.lv 0 (by decide)) (hm.1 0 (by decide)).2 rfl kin_X5_failures_X5 tyX5 tyX5_ok nmX5 27 (by decide) "ProbewebModel" (hts (.fieldLink RX5 78 "ProbewebModel" "thrown" "I") (by decide +kernel)) (fun _ h => h) rfl (by decide +kernel) rfl rfl (Nat.le_of_ble_eq_true rfl) dX5_failures_14 (fun H1 locs hU ho hS => ?_)
  have hm := km_p35 (v := 1) hm hU ho
  clear hU ho
  have hB : mB (mT τ 1) := hB
  refine lv_aload_n hx hb dX5_failures_17 rfl (lv_at hl 0 rfl) ?_
  refine kr_get (T := TX5) (N := 28) hx hb hts hown hK (hm.lv 0 (by decide)) rfl kin_X5_failures_X5 27 (by decide) (by decide +kernel) rfl dX5_failures_18 ?_
  refine kr_top (y := 1) (rfl) ?_
  refine lv_if_le (tgt := 28) hx hb dX5_failures_21 (by decide) (fun hc => absurd hc (by decide)) (fun _ => ?_)
  refine lv_iconst (v := 0) hx hb dX5_failures_24 (by decide) ?_
  refine lv_goto (tgt := 34) hx hb dX5_failures_25 (by decide) ?_
  refine kend_i S hr hlocks hS ⟨rfl, hm⟩ dX5_failures_34
theorem kin_X5_verdict_X5 : ∀ w ∈ wsX50, w ∈ wsX5_verdict := by decide +kernel
set_option maxHeartbeats 4000000 in
set_option maxRecDepth 100000 in
theorem cm_verdict (ε : kEnv) (l : Launch) {A : Nat → Prop} {bd : Nat → Nat} {τ : kS} {H : Heap} {i : Nat} (hAb : ∀ q, A q → kHi ε q) (hm : kM ε A bd τ H) (hB : mB τ) (hi : i < τ 32 0) : kMi ε l yX5_verdict wsX5_verdict ({ frames := 6, cells := 0, slots := 0, locals := 140 }) [.ref (bd 0), .int (nI i)] H A (0) (0) (fun v9 H' => v9 = nI (τ 10 i) ∧ kM ε A bd (mT τ 0) H') := by
  refine kof (cc := cX5_verdict) (maxL := 2) (ret := (some .int)) (by decide) rfl (Nat.le_of_ble_eq_true rfl) ?_
  intro p e s m below meth c ls S hr hlocks hin hH hE hl
  have S : CallFix p m c cX5_verdict 2 s _ wsX5_verdict RX5 := S
  have hx := S.1
  have hb := S.2.1
  have hown : s.vm.findClass RX5 = some m.cls := S.2.2.2.1
  have hts := S.2.2.2.2
  have hK := hE.1
  have hS : va_S A s.heap H [] := by rw [hH]; exact va_S.rf
  have hl : lv_has ls 2 [(0, .ref (bd 0)), (1, .int (nI i))] := hl
  have hnR := hB.nR
  have hnC := hB.nC
  have hnW := hB.nW
  have hnA := hB.nA
  have hmn := hB.min
  refine lv_aload_n hx hb dX5_verdict_0 rfl (lv_at hl 0 rfl) ?_
  refine lv_aload_n hx hb dX5_verdict_1 rfl (lv_at hl 0 rfl) ?_
  refine lv_iload_n hx hb dX5_verdict_2 rfl (lv_at hl 1 rfl) ?_
  refine kgo_pi (v := 1) (kc_V (As := [.int (nI i)]) (rest := [.ref (bd 0)]) S hE hS hAb (cm_isCheckT ε l hm hB hi) (cwV 1 hts gX5_verdict_X5_isCheck rfl rfl rfl (by decide +kernel) ⟨Nat.le_of_ble_eq_true rfl, Nat.le_of_ble_eq_true rfl⟩) (hm.lv 0 (by decide)) rfl rfl hl.1 rfl (Nat.le_of_ble_eq_true rfl) dX5_verdict_3 ⟨Nat.zero_le _, Nat.zero_le _⟩) hS (fun locs hS => ?_)
  refine lv_if_eq (tgt := 13) hx hb dX5_verdict_6 (by decide) (fun hc => absurd hc (by decide)) (fun _ => ?_)
  refine lv_iconst (v := 0) hx hb dX5_verdict_9 (by decide) ?_
  refine lv_goto (tgt := 14) hx hb dX5_verdict_10 (by decide) ?_
  refine kr_top (y := nI 0) (rfl) ?_
  refine kr_put (T := TX5) (N := 28) (v := .int (nI 0)) (ty := .int) hx hb hts hown hK hS (hm.lv 0 (by decide)) (hm.1 0 (by decide)).2 rfl kin_X5_verdict_X5 tyX5 tyX5_ok nmX5 27 (by decide) "ProbewebModel" (hts (.fieldLink RX5 78 "ProbewebModel" "thrown" "I") (by decide +kernel)) (fun _ h => h) rfl (by decide +kernel) rfl rfl (Nat.le_of_ble_eq_true rfl) dX5_verdict_14 (fun H1 locs hU ho hS => ?_)
  have hm := km_p35 (v := 0) hm hU ho
  clear hU ho
  have hB : mB (mT τ 0) := hB
  refine lv_aload_n hx hb dX5_verdict_17 rfl (lv_at hl 0 rfl) ?_
  refine kr_get (T := TX5) (N := 28) hx hb hts hown hK (hm.lv 0 (by decide)) rfl kin_X5_verdict_X5 27 (by decide) (by decide +kernel) rfl dX5_verdict_18 ?_
  refine kr_top (y := 0) (rfl) ?_
  refine lv_if_le (tgt := 28) hx hb dX5_verdict_21 (by decide) (fun _ => ?_) (fun hc => absurd (by decide) hc)
  refine lv_aload_n hx hb dX5_verdict_28 rfl (lv_at hl 0 rfl) ?_
  refine kr_get (T := TX5) (N := 28) hx hb hts hown hK (hm.lv 0 (by decide)) rfl kin_X5_verdict_X5 12 (by decide) (by decide +kernel) rfl dX5_verdict_29 ?_
  refine lv_iload_n hx hb dX5_verdict_32 rfl (lv_at hl 1 rfl) ?_
  refine kr_ild hx hb hK (hm.lv 10 (by decide)) (j := i) ((show i < 8 by omega)) (nI_clamp (ks31 ((show i < 8 by omega)))) (nI_pos (ks31 ((show i < 8 by omega)))) (x := nI ((ku τ 35 0 0) 10 i)) rfl dX5_verdict_33 ?_
  refine kend_i S hr hlocks hS ⟨rfl, hm⟩ dX5_verdict_34
set_option maxHeartbeats 4000000 in
set_option maxRecDepth 100000 in
theorem cm_verdictX (ε : kEnv) (l : Launch) {A : Nat → Prop} {bd : Nat → Nat} {τ : kS} {H : Heap} {x : Int32} (hAb : ∀ q, A q → kHi ε q) (hm : kM ε A bd τ H) (hB : mB τ) (h : x < 0 ∨ nI (τ 32 0) ≤ x) : kMi ε l yX5_verdict wsX5_verdict ({ frames := 6, cells := 0, slots := 0, locals := 140 }) [.ref (bd 0), .int x] H A (0) (0) (fun v9 H' => v9 = 0 ∧ kM ε A bd (mT τ 1) H') := by
  refine kof (cc := cX5_verdict) (maxL := 2) (ret := (some .int)) (by decide) rfl (Nat.le_of_ble_eq_true rfl) ?_
  intro p e s m below meth c ls S hr hlocks hin hH hE hl
  have S : CallFix p m c cX5_verdict 2 s _ wsX5_verdict RX5 := S
  have hx := S.1
  have hb := S.2.1
  have hown : s.vm.findClass RX5 = some m.cls := S.2.2.2.1
  have hts := S.2.2.2.2
  have hK := hE.1
  have hS : va_S A s.heap H [] := by rw [hH]; exact va_S.rf
  have hl : lv_has ls 2 [(0, .ref (bd 0)), (1, .int x)] := hl
  have hnR := hB.nR
  have hnC := hB.nC
  have hnW := hB.nW
  have hnA := hB.nA
  have hmn := hB.min
  refine lv_aload_n hx hb dX5_verdict_0 rfl (lv_at hl 0 rfl) ?_
  refine lv_aload_n hx hb dX5_verdict_1 rfl (lv_at hl 0 rfl) ?_
  refine lv_iload_n hx hb dX5_verdict_2 rfl (lv_at hl 1 rfl) ?_
  refine kgo_pi (v := 0) (kc_V (As := [.int x]) (rest := [.ref (bd 0)]) S hE hS hAb (cm_isCheckF ε l hm hB h) (cwV 1 hts gX5_verdict_X5_isCheck rfl rfl rfl (by decide +kernel) ⟨Nat.le_of_ble_eq_true rfl, Nat.le_of_ble_eq_true rfl⟩) (hm.lv 0 (by decide)) rfl rfl hl.1 rfl (Nat.le_of_ble_eq_true rfl) dX5_verdict_3 ⟨Nat.zero_le _, Nat.zero_le _⟩) hS (fun locs hS => ?_)
  refine lv_if_eq (tgt := 13) hx hb dX5_verdict_6 (by decide) (fun _ => ?_) (fun hc => absurd (by decide) hc)
  refine lv_iconst (v := 1) hx hb dX5_verdict_13 (by decide) ?_
  refine kr_top (y := nI 1) (rfl) ?_
  refine kr_put (T := TX5) (N := 28) (v := .int (nI 1)) (ty := .int) hx hb hts hown hK hS (hm.lv 0 (by decide)) (hm.1 0 (by decide)).2 rfl kin_X5_verdict_X5 tyX5 tyX5_ok nmX5 27 (by decide) "ProbewebModel" (hts (.fieldLink RX5 78 "ProbewebModel" "thrown" "I") (by decide +kernel)) (fun _ h => h) rfl (by decide +kernel) rfl rfl (Nat.le_of_ble_eq_true rfl) dX5_verdict_14 (fun H1 locs hU ho hS => ?_)
  have hm := km_p35 (v := 1) hm hU ho
  clear hU ho
  have hB : mB (mT τ 1) := hB
  refine lv_aload_n hx hb dX5_verdict_17 rfl (lv_at hl 0 rfl) ?_
  refine kr_get (T := TX5) (N := 28) hx hb hts hown hK (hm.lv 0 (by decide)) rfl kin_X5_verdict_X5 27 (by decide) (by decide +kernel) rfl dX5_verdict_18 ?_
  refine kr_top (y := 1) (rfl) ?_
  refine lv_if_le (tgt := 28) hx hb dX5_verdict_21 (by decide) (fun hc => absurd hc (by decide)) (fun _ => ?_)
  refine lv_iconst (v := 0) hx hb dX5_verdict_24 (by decide) ?_
  refine lv_goto (tgt := 34) hx hb dX5_verdict_25 (by decide) ?_
  refine kend_i S hr hlocks hS ⟨rfl, hm⟩ dX5_verdict_34
theorem kin_X5_isBad_X5 : ∀ w ∈ wsX50, w ∈ wsX5_isBad := by decide +kernel
set_option maxHeartbeats 4000000 in
set_option maxRecDepth 100000 in
theorem cm_isBad (ε : kEnv) (l : Launch) {A : Nat → Prop} {bd : Nat → Nat} {τ : kS} {H : Heap} {i : Nat} (hAb : ∀ q, A q → kHi ε q) (hm : kM ε A bd τ H) (hB : mB τ) (hi : i < τ 31 0) : kMi ε l yX5_isBad wsX5_isBad ({ frames := 6, cells := 0, slots := 0, locals := 140 }) [.ref (bd 0), .int (nI i)] H A (0) (0) (fun v9 H' => v9 = nI (τ 3 i) ∧ kM ε A bd (mT τ 0) H') := by
  refine kof (cc := cX5_isBad) (maxL := 2) (ret := (some .boolean)) (by decide) rfl (Nat.le_of_ble_eq_true rfl) ?_
  intro p e s m below meth c ls S hr hlocks hin hH hE hl
  have S : CallFix p m c cX5_isBad 2 s _ wsX5_isBad RX5 := S
  have hx := S.1
  have hb := S.2.1
  have hown : s.vm.findClass RX5 = some m.cls := S.2.2.2.1
  have hts := S.2.2.2.2
  have hK := hE.1
  have hS : va_S A s.heap H [] := by rw [hH]; exact va_S.rf
  have hl : lv_has ls 2 [(0, .ref (bd 0)), (1, .int (nI i))] := hl
  have hnR := hB.nR
  have hnC := hB.nC
  have hnW := hB.nW
  have hnA := hB.nA
  have hmn := hB.min
  refine lv_aload_n hx hb dX5_isBad_0 rfl (lv_at hl 0 rfl) ?_
  refine lv_aload_n hx hb dX5_isBad_1 rfl (lv_at hl 0 rfl) ?_
  refine lv_iload_n hx hb dX5_isBad_2 rfl (lv_at hl 1 rfl) ?_
  refine kgo_pi (v := 1) (kc_V (As := [.int (nI i)]) (rest := [.ref (bd 0)]) S hE hS hAb (cm_isRegionT ε l hm hB hi) (cwV 1 hts gX5_isBad_X5_isRegion rfl rfl rfl (by decide +kernel) ⟨Nat.le_of_ble_eq_true rfl, Nat.le_of_ble_eq_true rfl⟩) (hm.lv 0 (by decide)) rfl rfl hl.1 rfl (Nat.le_of_ble_eq_true rfl) dX5_isBad_3 ⟨Nat.zero_le _, Nat.zero_le _⟩) hS (fun locs hS => ?_)
  refine lv_if_eq (tgt := 13) hx hb dX5_isBad_6 (by decide) (fun hc => absurd hc (by decide)) (fun _ => ?_)
  refine lv_iconst (v := 0) hx hb dX5_isBad_9 (by decide) ?_
  refine lv_goto (tgt := 14) hx hb dX5_isBad_10 (by decide) ?_
  refine kr_top (y := nI 0) (rfl) ?_
  refine kr_put (T := TX5) (N := 28) (v := .int (nI 0)) (ty := .int) hx hb hts hown hK hS (hm.lv 0 (by decide)) (hm.1 0 (by decide)).2 rfl kin_X5_isBad_X5 tyX5 tyX5_ok nmX5 27 (by decide) "ProbewebModel" (hts (.fieldLink RX5 78 "ProbewebModel" "thrown" "I") (by decide +kernel)) (fun _ h => h) rfl (by decide +kernel) rfl rfl (Nat.le_of_ble_eq_true rfl) dX5_isBad_14 (fun H1 locs hU ho hS => ?_)
  have hm := km_p35 (v := 0) hm hU ho
  clear hU ho
  have hB : mB (mT τ 0) := hB
  refine lv_aload_n hx hb dX5_isBad_17 rfl (lv_at hl 0 rfl) ?_
  refine kr_get (T := TX5) (N := 28) hx hb hts hown hK (hm.lv 0 (by decide)) rfl kin_X5_isBad_X5 27 (by decide) (by decide +kernel) rfl dX5_isBad_18 ?_
  refine kr_top (y := 0) (rfl) ?_
  refine lv_if_ne (tgt := 37) hx hb dX5_isBad_21 (by decide) (fun hc => absurd (by decide) hc) (fun _ => ?_)
  have hcb := hB.cb i
  refine lv_aload_n hx hb dX5_isBad_24 rfl (lv_at hl 0 rfl) ?_
  refine kr_get (T := TX5) (N := 28) hx hb hts hown hK (hm.lv 0 (by decide)) rfl kin_X5_isBad_X5 4 (by decide) (by decide +kernel) rfl dX5_isBad_25 ?_
  refine lv_iload_n hx hb dX5_isBad_28 rfl (lv_at hl 1 rfl) ?_
  refine kr_zld hx hb hK (hm.lv 3 (by decide)) (j := i) ((show i < 6 by omega)) (nI_clamp (ks31 ((show i < 6 by omega)))) (nI_pos (ks31 ((show i < 6 by omega)))) (x := nI ((ku τ 35 0 0) 3 i)) rfl dX5_isBad_29 ?_
  refine lv_if_eq (tgt := 37) hx hb dX5_isBad_30 (by decide) (fun hc => ?_) (fun hc => ?_)
  · refine lv_iconst (v := 0) hx hb dX5_isBad_37 (by decide) ?_
    refine kend_z S hr hlocks hS ⟨hc.symm, hm⟩ (Or.inl rfl) dX5_isBad_38
  · refine lv_iconst (v := 1) hx hb dX5_isBad_33 (by decide) ?_
    refine lv_goto (tgt := 38) hx hb dX5_isBad_34 (by decide) ?_
    refine kend_z S hr hlocks hS ⟨((nI_01 hcb.2).resolve_left hc).symm, hm⟩ (Or.inr rfl) dX5_isBad_38
set_option maxHeartbeats 4000000 in
set_option maxRecDepth 100000 in
theorem cm_isBadX (ε : kEnv) (l : Launch) {A : Nat → Prop} {bd : Nat → Nat} {τ : kS} {H : Heap} {x : Int32} (hAb : ∀ q, A q → kHi ε q) (hm : kM ε A bd τ H) (hB : mB τ) (h : x < 0 ∨ nI (τ 31 0) ≤ x) : kMi ε l yX5_isBad wsX5_isBad ({ frames := 6, cells := 0, slots := 0, locals := 140 }) [.ref (bd 0), .int x] H A (0) (0) (fun v9 H' => v9 = 0 ∧ kM ε A bd (mT τ 1) H') := by
  refine kof (cc := cX5_isBad) (maxL := 2) (ret := (some .boolean)) (by decide) rfl (Nat.le_of_ble_eq_true rfl) ?_
  intro p e s m below meth c ls S hr hlocks hin hH hE hl
  have S : CallFix p m c cX5_isBad 2 s _ wsX5_isBad RX5 := S
  have hx := S.1
  have hb := S.2.1
  have hown : s.vm.findClass RX5 = some m.cls := S.2.2.2.1
  have hts := S.2.2.2.2
  have hK := hE.1
  have hS : va_S A s.heap H [] := by rw [hH]; exact va_S.rf
  have hl : lv_has ls 2 [(0, .ref (bd 0)), (1, .int x)] := hl
  have hnR := hB.nR
  have hnC := hB.nC
  have hnW := hB.nW
  have hnA := hB.nA
  have hmn := hB.min
  refine lv_aload_n hx hb dX5_isBad_0 rfl (lv_at hl 0 rfl) ?_
  refine lv_aload_n hx hb dX5_isBad_1 rfl (lv_at hl 0 rfl) ?_
  refine lv_iload_n hx hb dX5_isBad_2 rfl (lv_at hl 1 rfl) ?_
  refine kgo_pi (v := 0) (kc_V (As := [.int x]) (rest := [.ref (bd 0)]) S hE hS hAb (cm_isRegionF ε l hm hB h) (cwV 1 hts gX5_isBad_X5_isRegion rfl rfl rfl (by decide +kernel) ⟨Nat.le_of_ble_eq_true rfl, Nat.le_of_ble_eq_true rfl⟩) (hm.lv 0 (by decide)) rfl rfl hl.1 rfl (Nat.le_of_ble_eq_true rfl) dX5_isBad_3 ⟨Nat.zero_le _, Nat.zero_le _⟩) hS (fun locs hS => ?_)
  refine lv_if_eq (tgt := 13) hx hb dX5_isBad_6 (by decide) (fun _ => ?_) (fun hc => absurd (by decide) hc)
  refine lv_iconst (v := 1) hx hb dX5_isBad_13 (by decide) ?_
  refine kr_top (y := nI 1) (rfl) ?_
  refine kr_put (T := TX5) (N := 28) (v := .int (nI 1)) (ty := .int) hx hb hts hown hK hS (hm.lv 0 (by decide)) (hm.1 0 (by decide)).2 rfl kin_X5_isBad_X5 tyX5 tyX5_ok nmX5 27 (by decide) "ProbewebModel" (hts (.fieldLink RX5 78 "ProbewebModel" "thrown" "I") (by decide +kernel)) (fun _ h => h) rfl (by decide +kernel) rfl rfl (Nat.le_of_ble_eq_true rfl) dX5_isBad_14 (fun H1 locs hU ho hS => ?_)
  have hm := km_p35 (v := 1) hm hU ho
  clear hU ho
  have hB : mB (mT τ 1) := hB
  refine lv_aload_n hx hb dX5_isBad_17 rfl (lv_at hl 0 rfl) ?_
  refine kr_get (T := TX5) (N := 28) hx hb hts hown hK (hm.lv 0 (by decide)) rfl kin_X5_isBad_X5 27 (by decide) (by decide +kernel) rfl dX5_isBad_18 ?_
  refine kr_top (y := 1) (rfl) ?_
  refine lv_if_ne (tgt := 37) hx hb dX5_isBad_21 (by decide) (fun _ => ?_) (fun hc => absurd hc (by decide))
  refine lv_iconst (v := 0) hx hb dX5_isBad_37 (by decide) ?_
  refine kend_z S hr hlocks hS ⟨rfl, hm⟩ (Or.inl rfl) dX5_isBad_38
theorem kin_X5_hasAlarm_X5 : ∀ w ∈ wsX50, w ∈ wsX5_hasAlarm := by decide +kernel
set_option maxHeartbeats 4000000 in
set_option maxRecDepth 100000 in
theorem cm_hasAlarm (ε : kEnv) (l : Launch) {A : Nat → Prop} {bd : Nat → Nat} {τ : kS} {H : Heap} {i : Nat} (hAb : ∀ q, A q → kHi ε q) (hm : kM ε A bd τ H) (hB : mB τ) (hi : i < τ 32 0) : kMi ε l yX5_hasAlarm wsX5_hasAlarm ({ frames := 6, cells := 0, slots := 0, locals := 140 }) [.ref (bd 0), .int (nI i)] H A (0) (0) (fun v9 H' => v9 = bI (τ 11 i != 0) ∧ kM ε A bd (mT τ 0) H') := by
  refine kof (cc := cX5_hasAlarm) (maxL := 2) (ret := (some .boolean)) (by decide) rfl (Nat.le_of_ble_eq_true rfl) ?_
  intro p e s m below meth c ls S hr hlocks hin hH hE hl
  have S : CallFix p m c cX5_hasAlarm 2 s _ wsX5_hasAlarm RX5 := S
  have hx := S.1
  have hb := S.2.1
  have hown : s.vm.findClass RX5 = some m.cls := S.2.2.2.1
  have hts := S.2.2.2.2
  have hK := hE.1
  have hS : va_S A s.heap H [] := by rw [hH]; exact va_S.rf
  have hl : lv_has ls 2 [(0, .ref (bd 0)), (1, .int (nI i))] := hl
  have hnR := hB.nR
  have hnC := hB.nC
  have hnW := hB.nW
  have hnA := hB.nA
  have hmn := hB.min
  refine lv_aload_n hx hb dX5_hasAlarm_0 rfl (lv_at hl 0 rfl) ?_
  refine lv_aload_n hx hb dX5_hasAlarm_1 rfl (lv_at hl 0 rfl) ?_
  refine lv_iload_n hx hb dX5_hasAlarm_2 rfl (lv_at hl 1 rfl) ?_
  refine kgo_pi (v := 1) (kc_V (As := [.int (nI i)]) (rest := [.ref (bd 0)]) S hE hS hAb (cm_isCheckT ε l hm hB hi) (cwV 1 hts gX5_hasAlarm_X5_isCheck rfl rfl rfl (by decide +kernel) ⟨Nat.le_of_ble_eq_true rfl, Nat.le_of_ble_eq_true rfl⟩) (hm.lv 0 (by decide)) rfl rfl hl.1 rfl (Nat.le_of_ble_eq_true rfl) dX5_hasAlarm_3 ⟨Nat.zero_le _, Nat.zero_le _⟩) hS (fun locs hS => ?_)
  refine lv_if_eq (tgt := 13) hx hb dX5_hasAlarm_6 (by decide) (fun hc => absurd hc (by decide)) (fun _ => ?_)
  refine lv_iconst (v := 0) hx hb dX5_hasAlarm_9 (by decide) ?_
  refine lv_goto (tgt := 14) hx hb dX5_hasAlarm_10 (by decide) ?_
  refine kr_top (y := nI 0) (rfl) ?_
  refine kr_put (T := TX5) (N := 28) (v := .int (nI 0)) (ty := .int) hx hb hts hown hK hS (hm.lv 0 (by decide)) (hm.1 0 (by decide)).2 rfl kin_X5_hasAlarm_X5 tyX5 tyX5_ok nmX5 27 (by decide) "ProbewebModel" (hts (.fieldLink RX5 78 "ProbewebModel" "thrown" "I") (by decide +kernel)) (fun _ h => h) rfl (by decide +kernel) rfl rfl (Nat.le_of_ble_eq_true rfl) dX5_hasAlarm_14 (fun H1 locs hU ho hS => ?_)
  have hm := km_p35 (v := 0) hm hU ho
  clear hU ho
  have hB : mB (mT τ 0) := hB
  refine lv_aload_n hx hb dX5_hasAlarm_17 rfl (lv_at hl 0 rfl) ?_
  refine kr_get (T := TX5) (N := 28) hx hb hts hown hK (hm.lv 0 (by decide)) rfl kin_X5_hasAlarm_X5 27 (by decide) (by decide +kernel) rfl dX5_hasAlarm_18 ?_
  refine kr_top (y := 0) (rfl) ?_
  refine lv_if_ne (tgt := 37) hx hb dX5_hasAlarm_21 (by decide) (fun hc => absurd (by decide) hc) (fun _ => ?_)
  have hck : τ 11 i ≤ 51000 := Nat.le_trans (hB.ck i hi).2.2.2.2.2 hB.nA
  refine lv_aload_n hx hb dX5_hasAlarm_24 rfl (lv_at hl 0 rfl) ?_
  refine kr_get (T := TX5) (N := 28) hx hb hts hown hK (hm.lv 0 (by decide)) rfl kin_X5_hasAlarm_X5 13 (by decide) (by decide +kernel) rfl dX5_hasAlarm_25 ?_
  refine lv_iload_n hx hb dX5_hasAlarm_28 rfl (lv_at hl 1 rfl) ?_
  refine kr_ild hx hb hK (hm.lv 11 (by decide)) (j := i) ((show i < 8 by omega)) (nI_clamp (ks31 ((show i < 8 by omega)))) (nI_pos (ks31 ((show i < 8 by omega)))) (x := mI ((ku τ 35 0 0) 11 i)) rfl dX5_hasAlarm_29 ?_
  refine lv_if_lt (tgt := 37) hx hb dX5_hasAlarm_30 (by decide) (fun hc => ?_) (fun hc => ?_)
  · refine lv_iconst (v := 0) hx hb dX5_hasAlarm_37 (by decide) ?_
    have h0 : τ 11 i = 0 := (mI_neg (by omega)).mp hc
    refine kend_z S hr hlocks hS ⟨by rw [h0]; rfl, hm⟩ (Or.inl rfl) dX5_hasAlarm_38
  · refine lv_iconst (v := 1) hx hb dX5_hasAlarm_33 (by decide) ?_
    refine lv_goto (tgt := 38) hx hb dX5_hasAlarm_34 (by decide) ?_
    have h0 : (τ 11 i != 0) = true := by simpa using fun h : τ 11 i = 0 => hc ((mI_neg (show τ 11 i ≤ 2 ^ 30 from Nat.le_trans hck (by decide))).mpr h)
    refine kend_z S hr hlocks hS ⟨by rw [h0]; rfl, hm⟩ (Or.inr rfl) dX5_hasAlarm_38
set_option maxHeartbeats 4000000 in
set_option maxRecDepth 100000 in
theorem cm_hasAlarmX (ε : kEnv) (l : Launch) {A : Nat → Prop} {bd : Nat → Nat} {τ : kS} {H : Heap} {x : Int32} (hAb : ∀ q, A q → kHi ε q) (hm : kM ε A bd τ H) (hB : mB τ) (h : x < 0 ∨ nI (τ 32 0) ≤ x) : kMi ε l yX5_hasAlarm wsX5_hasAlarm ({ frames := 6, cells := 0, slots := 0, locals := 140 }) [.ref (bd 0), .int x] H A (0) (0) (fun v9 H' => v9 = 0 ∧ kM ε A bd (mT τ 1) H') := by
  refine kof (cc := cX5_hasAlarm) (maxL := 2) (ret := (some .boolean)) (by decide) rfl (Nat.le_of_ble_eq_true rfl) ?_
  intro p e s m below meth c ls S hr hlocks hin hH hE hl
  have S : CallFix p m c cX5_hasAlarm 2 s _ wsX5_hasAlarm RX5 := S
  have hx := S.1
  have hb := S.2.1
  have hown : s.vm.findClass RX5 = some m.cls := S.2.2.2.1
  have hts := S.2.2.2.2
  have hK := hE.1
  have hS : va_S A s.heap H [] := by rw [hH]; exact va_S.rf
  have hl : lv_has ls 2 [(0, .ref (bd 0)), (1, .int x)] := hl
  have hnR := hB.nR
  have hnC := hB.nC
  have hnW := hB.nW
  have hnA := hB.nA
  have hmn := hB.min
  refine lv_aload_n hx hb dX5_hasAlarm_0 rfl (lv_at hl 0 rfl) ?_
  refine lv_aload_n hx hb dX5_hasAlarm_1 rfl (lv_at hl 0 rfl) ?_
  refine lv_iload_n hx hb dX5_hasAlarm_2 rfl (lv_at hl 1 rfl) ?_
  refine kgo_pi (v := 0) (kc_V (As := [.int x]) (rest := [.ref (bd 0)]) S hE hS hAb (cm_isCheckF ε l hm hB h) (cwV 1 hts gX5_hasAlarm_X5_isCheck rfl rfl rfl (by decide +kernel) ⟨Nat.le_of_ble_eq_true rfl, Nat.le_of_ble_eq_true rfl⟩) (hm.lv 0 (by decide)) rfl rfl hl.1 rfl (Nat.le_of_ble_eq_true rfl) dX5_hasAlarm_3 ⟨Nat.zero_le _, Nat.zero_le _⟩) hS (fun locs hS => ?_)
  refine lv_if_eq (tgt := 13) hx hb dX5_hasAlarm_6 (by decide) (fun _ => ?_) (fun hc => absurd (by decide) hc)
  refine lv_iconst (v := 1) hx hb dX5_hasAlarm_13 (by decide) ?_
  refine kr_top (y := nI 1) (rfl) ?_
  refine kr_put (T := TX5) (N := 28) (v := .int (nI 1)) (ty := .int) hx hb hts hown hK hS (hm.lv 0 (by decide)) (hm.1 0 (by decide)).2 rfl kin_X5_hasAlarm_X5 tyX5 tyX5_ok nmX5 27 (by decide) "ProbewebModel" (hts (.fieldLink RX5 78 "ProbewebModel" "thrown" "I") (by decide +kernel)) (fun _ h => h) rfl (by decide +kernel) rfl rfl (Nat.le_of_ble_eq_true rfl) dX5_hasAlarm_14 (fun H1 locs hU ho hS => ?_)
  have hm := km_p35 (v := 1) hm hU ho
  clear hU ho
  have hB : mB (mT τ 1) := hB
  refine lv_aload_n hx hb dX5_hasAlarm_17 rfl (lv_at hl 0 rfl) ?_
  refine kr_get (T := TX5) (N := 28) hx hb hts hown hK (hm.lv 0 (by decide)) rfl kin_X5_hasAlarm_X5 27 (by decide) (by decide +kernel) rfl dX5_hasAlarm_18 ?_
  refine kr_top (y := 1) (rfl) ?_
  refine lv_if_ne (tgt := 37) hx hb dX5_hasAlarm_21 (by decide) (fun _ => ?_) (fun hc => absurd hc (by decide))
  refine lv_iconst (v := 0) hx hb dX5_hasAlarm_37 (by decide) ?_
  refine kend_z S hr hlocks hS ⟨rfl, hm⟩ (Or.inl rfl) dX5_hasAlarm_38
theorem kin_X5_setCut_X5 : ∀ w ∈ wsX50, w ∈ wsX5_setCut := by decide +kernel
set_option maxHeartbeats 4000000 in
set_option maxRecDepth 100000 in
theorem cm_setCut (ε : kEnv) (l : Launch) {A : Nat → Prop} {bd : Nat → Nat} {τ : kS} {H : Heap} {i : Nat} {v : Nat} (hAb : ∀ q, A q → kHi ε q) (hm : kM ε A bd τ H) (hB : mB τ) (hi : i < τ 31 0) (hv : v ≤ 1) : kMi ε l yX5_setCut wsX5_setCut ({ frames := 6, cells := 0, slots := 0, locals := 140 }) [.ref (bd 0), .int (nI i), .int (nI v)] H A (0) (0) (fun v9 H' => v9 = nI (τ 2 i) ∧ kM ε A bd (ku (mT τ 0) 2 i v) H') := by
  refine kof (cc := cX5_setCut) (maxL := 4) (ret := (some .boolean)) (by decide) rfl (Nat.le_of_ble_eq_true rfl) ?_
  intro p e s m below meth c ls S hr hlocks hin hH hE hl
  have S : CallFix p m c cX5_setCut 4 s _ wsX5_setCut RX5 := S
  have hx := S.1
  have hb := S.2.1
  have hown : s.vm.findClass RX5 = some m.cls := S.2.2.2.1
  have hts := S.2.2.2.2
  have hK := hE.1
  have hS : va_S A s.heap H [] := by rw [hH]; exact va_S.rf
  have hl : lv_has ls 4 [(0, .ref (bd 0)), (1, .int (nI i)), (2, .int (nI v))] := hl
  have hnR := hB.nR
  have hnC := hB.nC
  have hnW := hB.nW
  have hnA := hB.nA
  have hmn := hB.min
  refine lv_aload_n hx hb dX5_setCut_0 rfl (lv_at hl 0 rfl) ?_
  refine lv_aload_n hx hb dX5_setCut_1 rfl (lv_at hl 0 rfl) ?_
  refine lv_iload_n hx hb dX5_setCut_2 rfl (lv_at hl 1 rfl) ?_
  refine kgo_pi (v := 1) (kc_V (As := [.int (nI i)]) (rest := [.ref (bd 0)]) S hE hS hAb (cm_isRegionT ε l hm hB hi) (cwV 1 hts gX5_setCut_X5_isRegion rfl rfl rfl (by decide +kernel) ⟨Nat.le_of_ble_eq_true rfl, Nat.le_of_ble_eq_true rfl⟩) (hm.lv 0 (by decide)) rfl rfl hl.1 rfl (Nat.le_of_ble_eq_true rfl) dX5_setCut_3 ⟨Nat.zero_le _, Nat.zero_le _⟩) hS (fun locs hS => ?_)
  refine lv_if_eq (tgt := 13) hx hb dX5_setCut_6 (by decide) (fun hc => absurd hc (by decide)) (fun _ => ?_)
  refine lv_iconst (v := 0) hx hb dX5_setCut_9 (by decide) ?_
  refine lv_goto (tgt := 14) hx hb dX5_setCut_10 (by decide) ?_
  refine kr_top (y := nI 0) (rfl) ?_
  refine kr_put (T := TX5) (N := 28) (v := .int (nI 0)) (ty := .int) hx hb hts hown hK hS (hm.lv 0 (by decide)) (hm.1 0 (by decide)).2 rfl kin_X5_setCut_X5 tyX5 tyX5_ok nmX5 27 (by decide) "ProbewebModel" (hts (.fieldLink RX5 78 "ProbewebModel" "thrown" "I") (by decide +kernel)) (fun _ h => h) rfl (by decide +kernel) rfl rfl (Nat.le_of_ble_eq_true rfl) dX5_setCut_14 (fun H1 locs hU ho hS => ?_)
  have hm := km_p35 (v := 0) hm hU ho
  clear hU ho
  have hB : mB (mT τ 0) := hB
  refine lv_aload_n hx hb dX5_setCut_17 rfl (lv_at hl 0 rfl) ?_
  refine kr_get (T := TX5) (N := 28) hx hb hts hown hK (hm.lv 0 (by decide)) rfl kin_X5_setCut_X5 27 (by decide) (by decide +kernel) rfl dX5_setCut_18 ?_
  refine kr_top (y := 0) (rfl) ?_
  refine lv_if_le (tgt := 26) hx hb dX5_setCut_21 (by decide) (fun _ => ?_) (fun hc => absurd (by decide) hc)
  have hcb := hB.cb i
  refine lv_aload_n hx hb dX5_setCut_26 rfl (lv_at hl 0 rfl) ?_
  refine kr_get (T := TX5) (N := 28) hx hb hts hown hK (hm.lv 0 (by decide)) rfl kin_X5_setCut_X5 3 (by decide) (by decide +kernel) rfl dX5_setCut_27 ?_
  refine lv_iload_n hx hb dX5_setCut_30 rfl (lv_at hl 1 rfl) ?_
  refine kr_zld hx hb hK (hm.lv 2 (by decide)) (j := i) ((show i < 6 by omega)) (nI_clamp (ks31 ((show i < 6 by omega)))) (nI_pos (ks31 ((show i < 6 by omega)))) (x := nI ((ku τ 35 0 0) 2 i)) rfl dX5_setCut_31 ?_
  refine lv_istore_n (lv' := [(3, .int (nI ((ku τ 35 0 0) 2 i))), (0, .ref (bd 0)), (1, .int (nI i)), (2, .int (nI v))]) hx hb dX5_setCut_32 rfl hl (by decide) rfl (fun ls hl => ?_)
  refine lv_aload_n hx hb dX5_setCut_33 rfl (lv_at hl 1 rfl) ?_
  refine kr_get (T := TX5) (N := 28) hx hb hts hown hK (hm.lv 0 (by decide)) rfl kin_X5_setCut_X5 3 (by decide) (by decide +kernel) rfl dX5_setCut_34 ?_
  refine lv_iload_n hx hb dX5_setCut_37 rfl (lv_at hl 2 rfl) ?_
  refine lv_iload_n hx hb dX5_setCut_38 rfl (lv_at hl 3 rfl) ?_
  refine kr_top (y := nI v) (rfl) ?_
  refine kr_zst hx hb hK hS (hm.lv 2 (by decide)) (hm.1 2 (by decide)).2 (j := i) (x := nI v) ((show i < 6 by omega)) (nI_clamp (ks31 ((show i < 6 by omega)))) (nI_pos (ks31 ((show i < 6 by omega)))) (nI_z hv) dX5_setCut_39 (fun H1 locs hU ho hS => ?_)
  have hm := km_p2 (j := i) (v := v) hm hU ho
  clear hU ho
  refine lv_iload_n hx hb dX5_setCut_40 rfl (lv_at hl 0 rfl) ?_
  refine kend_z S hr hlocks hS ⟨rfl, hm⟩ (nI_01 hcb.1) dX5_setCut_41
set_option maxHeartbeats 4000000 in
set_option maxRecDepth 100000 in
theorem cm_setCutX (ε : kEnv) (l : Launch) {A : Nat → Prop} {bd : Nat → Nat} {τ : kS} {H : Heap} {x : Int32} {v : Nat} (hAb : ∀ q, A q → kHi ε q) (hm : kM ε A bd τ H) (hB : mB τ) (h : x < 0 ∨ nI (τ 31 0) ≤ x) : kMi ε l yX5_setCut wsX5_setCut ({ frames := 6, cells := 0, slots := 0, locals := 140 }) [.ref (bd 0), .int x, .int (nI v)] H A (0) (0) (fun v9 H' => v9 = 0 ∧ kM ε A bd (mT τ 1) H') := by
  refine kof (cc := cX5_setCut) (maxL := 4) (ret := (some .boolean)) (by decide) rfl (Nat.le_of_ble_eq_true rfl) ?_
  intro p e s m below meth c ls S hr hlocks hin hH hE hl
  have S : CallFix p m c cX5_setCut 4 s _ wsX5_setCut RX5 := S
  have hx := S.1
  have hb := S.2.1
  have hown : s.vm.findClass RX5 = some m.cls := S.2.2.2.1
  have hts := S.2.2.2.2
  have hK := hE.1
  have hS : va_S A s.heap H [] := by rw [hH]; exact va_S.rf
  have hl : lv_has ls 4 [(0, .ref (bd 0)), (1, .int x), (2, .int (nI v))] := hl
  have hnR := hB.nR
  have hnC := hB.nC
  have hnW := hB.nW
  have hnA := hB.nA
  have hmn := hB.min
  refine lv_aload_n hx hb dX5_setCut_0 rfl (lv_at hl 0 rfl) ?_
  refine lv_aload_n hx hb dX5_setCut_1 rfl (lv_at hl 0 rfl) ?_
  refine lv_iload_n hx hb dX5_setCut_2 rfl (lv_at hl 1 rfl) ?_
  refine kgo_pi (v := 0) (kc_V (As := [.int x]) (rest := [.ref (bd 0)]) S hE hS hAb (cm_isRegionF ε l hm hB h) (cwV 1 hts gX5_setCut_X5_isRegion rfl rfl rfl (by decide +kernel) ⟨Nat.le_of_ble_eq_true rfl, Nat.le_of_ble_eq_true rfl⟩) (hm.lv 0 (by decide)) rfl rfl hl.1 rfl (Nat.le_of_ble_eq_true rfl) dX5_setCut_3 ⟨Nat.zero_le _, Nat.zero_le _⟩) hS (fun locs hS => ?_)
  refine lv_if_eq (tgt := 13) hx hb dX5_setCut_6 (by decide) (fun _ => ?_) (fun hc => absurd (by decide) hc)
  refine lv_iconst (v := 1) hx hb dX5_setCut_13 (by decide) ?_
  refine kr_top (y := nI 1) (rfl) ?_
  refine kr_put (T := TX5) (N := 28) (v := .int (nI 1)) (ty := .int) hx hb hts hown hK hS (hm.lv 0 (by decide)) (hm.1 0 (by decide)).2 rfl kin_X5_setCut_X5 tyX5 tyX5_ok nmX5 27 (by decide) "ProbewebModel" (hts (.fieldLink RX5 78 "ProbewebModel" "thrown" "I") (by decide +kernel)) (fun _ h => h) rfl (by decide +kernel) rfl rfl (Nat.le_of_ble_eq_true rfl) dX5_setCut_14 (fun H1 locs hU ho hS => ?_)
  have hm := km_p35 (v := 1) hm hU ho
  clear hU ho
  have hB : mB (mT τ 1) := hB
  refine lv_aload_n hx hb dX5_setCut_17 rfl (lv_at hl 0 rfl) ?_
  refine kr_get (T := TX5) (N := 28) hx hb hts hown hK (hm.lv 0 (by decide)) rfl kin_X5_setCut_X5 27 (by decide) (by decide +kernel) rfl dX5_setCut_18 ?_
  refine kr_top (y := 1) (rfl) ?_
  refine lv_if_le (tgt := 26) hx hb dX5_setCut_21 (by decide) (fun hc => absurd hc (by decide)) (fun _ => ?_)
  refine lv_iconst (v := 0) hx hb dX5_setCut_24 (by decide) ?_
  refine kend_z S hr hlocks hS ⟨rfl, hm⟩ (Or.inl rfl) dX5_setCut_25
theorem kin_X5_isPair_X5 : ∀ w ∈ wsX50, w ∈ wsX5_isPair := by decide +kernel
set_option maxHeartbeats 4000000 in
set_option maxRecDepth 100000 in
theorem cm_isPair (ε : kEnv) (l : Launch) {A : Nat → Prop} {bd : Nat → Nat} {τ : kS} {H : Heap} {i r : Nat} (hAb : ∀ q, A q → kHi ε q) (hm : kM ε A bd τ H) (hB : mB τ) (hi : i < τ 32 0) (hr0 : r < τ 31 0) : kMi ε l yX5_isPair wsX5_isPair ({ frames := 3, cells := 0, slots := 0, locals := 70 }) [.ref (bd 0), .int (nI i), .int (nI r)] H A (0) (0) (fun v9 H' => v9 = 1 ∧ kM ε A bd (mT τ 0) H') := by
  refine kof (cc := cX5_isPair) (maxL := 3) (ret := (some .boolean)) (by decide) rfl (Nat.le_of_ble_eq_true rfl) ?_
  intro p e s m below meth c ls S hr hlocks hin hH hE hl
  have S : CallFix p m c cX5_isPair 3 s _ wsX5_isPair RX5 := S
  have hx := S.1
  have hb := S.2.1
  have hown : s.vm.findClass RX5 = some m.cls := S.2.2.2.1
  have hts := S.2.2.2.2
  have hK := hE.1
  have hS : va_S A s.heap H [] := by rw [hH]; exact va_S.rf
  have hl : lv_has ls 3 [(0, .ref (bd 0)), (1, .int (nI i)), (2, .int (nI r))] := hl
  have hnR := hB.nR
  have hnC := hB.nC
  have hnW := hB.nW
  have hnA := hB.nA
  have hmn := hB.min
  refine lv_aload_n hx hb dX5_isPair_0 rfl (lv_at hl 0 rfl) ?_
  refine lv_aload_n hx hb dX5_isPair_1 rfl (lv_at hl 0 rfl) ?_
  refine lv_iload_n hx hb dX5_isPair_2 rfl (lv_at hl 1 rfl) ?_
  refine kgo_pi (v := 1) (kc_V (As := [.int (nI i)]) (rest := [.ref (bd 0)]) S hE hS hAb (cm_isCheckT ε l hm hB hi) (cwV 1 hts gX5_isPair_X5_isCheck rfl rfl rfl (by decide +kernel) ⟨Nat.le_of_ble_eq_true rfl, Nat.le_of_ble_eq_true rfl⟩) (hm.lv 0 (by decide)) rfl rfl hl.1 rfl (Nat.le_of_ble_eq_true rfl) dX5_isPair_3 ⟨Nat.zero_le _, Nat.zero_le _⟩) hS (fun locs hS => ?_)
  refine lv_if_eq (tgt := 21) hx hb dX5_isPair_6 (by decide) (fun hc => absurd hc (by decide)) (fun _ => ?_)
  refine lv_aload_n hx hb dX5_isPair_9 rfl (lv_at hl 0 rfl) ?_
  refine lv_iload_n hx hb dX5_isPair_10 rfl (lv_at hl 2 rfl) ?_
  refine kgo_pi (v := 1) (kc_V (As := [.int (nI r)]) (rest := [.ref (bd 0)]) S hE hS hAb (cm_isRegionT ε l hm hB hr0) (cwV 1 hts gX5_isPair_X5_isRegion rfl rfl rfl (by decide +kernel) ⟨Nat.le_of_ble_eq_true rfl, Nat.le_of_ble_eq_true rfl⟩) (hm.lv 0 (by decide)) rfl rfl hl.1 rfl (Nat.le_of_ble_eq_true rfl) dX5_isPair_11 ⟨Nat.zero_le _, Nat.zero_le _⟩) hS (fun locs hS => ?_)
  refine lv_if_eq (tgt := 21) hx hb dX5_isPair_14 (by decide) (fun hc => absurd hc (by decide)) (fun _ => ?_)
  refine lv_iconst (v := 0) hx hb dX5_isPair_17 (by decide) ?_
  refine lv_goto (tgt := 22) hx hb dX5_isPair_18 (by decide) ?_
  refine kr_top (y := nI 0) (rfl) ?_
  refine kr_put (T := TX5) (N := 28) (v := .int (nI 0)) (ty := .int) hx hb hts hown hK hS (hm.lv 0 (by decide)) (hm.1 0 (by decide)).2 rfl kin_X5_isPair_X5 tyX5 tyX5_ok nmX5 27 (by decide) "ProbewebModel" (hts (.fieldLink RX5 78 "ProbewebModel" "thrown" "I") (by decide +kernel)) (fun _ h => h) rfl (by decide +kernel) rfl rfl (Nat.le_of_ble_eq_true rfl) dX5_isPair_22 (fun H1 locs hU ho hS => ?_)
  have hm := km_p35 (v := 0) hm hU ho
  clear hU ho
  have hB : mB (mT τ 0) := hB
  refine lv_aload_n hx hb dX5_isPair_25 rfl (lv_at hl 0 rfl) ?_
  refine kr_get (T := TX5) (N := 28) hx hb hts hown hK (hm.lv 0 (by decide)) rfl kin_X5_isPair_X5 27 (by decide) (by decide +kernel) rfl dX5_isPair_26 ?_
  refine kr_top (y := 0) (rfl) ?_
  refine lv_if_ne (tgt := 36) hx hb dX5_isPair_29 (by decide) (fun hc => absurd (by decide) hc) (fun _ => ?_)
  refine lv_iconst (v := 1) hx hb dX5_isPair_32 (by decide) ?_
  refine lv_goto (tgt := 37) hx hb dX5_isPair_33 (by decide) ?_
  refine kend_z S hr hlocks hS ⟨rfl, hm⟩ (Or.inr rfl) dX5_isPair_37
set_option maxHeartbeats 4000000 in
set_option maxRecDepth 100000 in
theorem cm_isPairX1 (ε : kEnv) (l : Launch) {A : Nat → Prop} {bd : Nat → Nat} {τ : kS} {H : Heap} {x y : Int32} (hAb : ∀ q, A q → kHi ε q) (hm : kM ε A bd τ H) (hB : mB τ) (h : x < 0 ∨ nI (τ 32 0) ≤ x) : kMi ε l yX5_isPair wsX5_isPair ({ frames := 3, cells := 0, slots := 0, locals := 70 }) [.ref (bd 0), .int x, .int y] H A (0) (0) (fun v9 H' => v9 = 0 ∧ kM ε A bd (mT τ 1) H') := by
  refine kof (cc := cX5_isPair) (maxL := 3) (ret := (some .boolean)) (by decide) rfl (Nat.le_of_ble_eq_true rfl) ?_
  intro p e s m below meth c ls S hr hlocks hin hH hE hl
  have S : CallFix p m c cX5_isPair 3 s _ wsX5_isPair RX5 := S
  have hx := S.1
  have hb := S.2.1
  have hown : s.vm.findClass RX5 = some m.cls := S.2.2.2.1
  have hts := S.2.2.2.2
  have hK := hE.1
  have hS : va_S A s.heap H [] := by rw [hH]; exact va_S.rf
  have hl : lv_has ls 3 [(0, .ref (bd 0)), (1, .int x), (2, .int y)] := hl
  have hnR := hB.nR
  have hnC := hB.nC
  have hnW := hB.nW
  have hnA := hB.nA
  have hmn := hB.min
  refine lv_aload_n hx hb dX5_isPair_0 rfl (lv_at hl 0 rfl) ?_
  refine lv_aload_n hx hb dX5_isPair_1 rfl (lv_at hl 0 rfl) ?_
  refine lv_iload_n hx hb dX5_isPair_2 rfl (lv_at hl 1 rfl) ?_
  refine kgo_pi (v := 0) (kc_V (As := [.int x]) (rest := [.ref (bd 0)]) S hE hS hAb (cm_isCheckF ε l hm hB h) (cwV 1 hts gX5_isPair_X5_isCheck rfl rfl rfl (by decide +kernel) ⟨Nat.le_of_ble_eq_true rfl, Nat.le_of_ble_eq_true rfl⟩) (hm.lv 0 (by decide)) rfl rfl hl.1 rfl (Nat.le_of_ble_eq_true rfl) dX5_isPair_3 ⟨Nat.zero_le _, Nat.zero_le _⟩) hS (fun locs hS => ?_)
  refine lv_if_eq (tgt := 21) hx hb dX5_isPair_6 (by decide) (fun _ => ?_) (fun hc => absurd (by decide) hc)
  refine lv_iconst (v := 1) hx hb dX5_isPair_21 (by decide) ?_
  refine kr_top (y := nI 1) (rfl) ?_
  refine kr_put (T := TX5) (N := 28) (v := .int (nI 1)) (ty := .int) hx hb hts hown hK hS (hm.lv 0 (by decide)) (hm.1 0 (by decide)).2 rfl kin_X5_isPair_X5 tyX5 tyX5_ok nmX5 27 (by decide) "ProbewebModel" (hts (.fieldLink RX5 78 "ProbewebModel" "thrown" "I") (by decide +kernel)) (fun _ h => h) rfl (by decide +kernel) rfl rfl (Nat.le_of_ble_eq_true rfl) dX5_isPair_22 (fun H1 locs hU ho hS => ?_)
  have hm := km_p35 (v := 1) hm hU ho
  clear hU ho
  have hB : mB (mT τ 1) := hB
  refine lv_aload_n hx hb dX5_isPair_25 rfl (lv_at hl 0 rfl) ?_
  refine kr_get (T := TX5) (N := 28) hx hb hts hown hK (hm.lv 0 (by decide)) rfl kin_X5_isPair_X5 27 (by decide) (by decide +kernel) rfl dX5_isPair_26 ?_
  refine kr_top (y := 1) (rfl) ?_
  refine lv_if_ne (tgt := 36) hx hb dX5_isPair_29 (by decide) (fun _ => ?_) (fun hc => absurd hc (by decide))
  refine lv_iconst (v := 0) hx hb dX5_isPair_36 (by decide) ?_
  refine kend_z S hr hlocks hS ⟨rfl, hm⟩ (Or.inl rfl) dX5_isPair_37
set_option maxHeartbeats 4000000 in
set_option maxRecDepth 100000 in
theorem cm_isPairX2 (ε : kEnv) (l : Launch) {A : Nat → Prop} {bd : Nat → Nat} {τ : kS} {H : Heap} {i : Nat} {y : Int32} (hAb : ∀ q, A q → kHi ε q) (hm : kM ε A bd τ H) (hB : mB τ) (hi : i < τ 32 0) (h : y < 0 ∨ nI (τ 31 0) ≤ y) : kMi ε l yX5_isPair wsX5_isPair ({ frames := 3, cells := 0, slots := 0, locals := 70 }) [.ref (bd 0), .int (nI i), .int y] H A (0) (0) (fun v9 H' => v9 = 0 ∧ kM ε A bd (mT τ 1) H') := by
  refine kof (cc := cX5_isPair) (maxL := 3) (ret := (some .boolean)) (by decide) rfl (Nat.le_of_ble_eq_true rfl) ?_
  intro p e s m below meth c ls S hr hlocks hin hH hE hl
  have S : CallFix p m c cX5_isPair 3 s _ wsX5_isPair RX5 := S
  have hx := S.1
  have hb := S.2.1
  have hown : s.vm.findClass RX5 = some m.cls := S.2.2.2.1
  have hts := S.2.2.2.2
  have hK := hE.1
  have hS : va_S A s.heap H [] := by rw [hH]; exact va_S.rf
  have hl : lv_has ls 3 [(0, .ref (bd 0)), (1, .int (nI i)), (2, .int y)] := hl
  have hnR := hB.nR
  have hnC := hB.nC
  have hnW := hB.nW
  have hnA := hB.nA
  have hmn := hB.min
  refine lv_aload_n hx hb dX5_isPair_0 rfl (lv_at hl 0 rfl) ?_
  refine lv_aload_n hx hb dX5_isPair_1 rfl (lv_at hl 0 rfl) ?_
  refine lv_iload_n hx hb dX5_isPair_2 rfl (lv_at hl 1 rfl) ?_
  refine kgo_pi (v := 1) (kc_V (As := [.int (nI i)]) (rest := [.ref (bd 0)]) S hE hS hAb (cm_isCheckT ε l hm hB hi) (cwV 1 hts gX5_isPair_X5_isCheck rfl rfl rfl (by decide +kernel) ⟨Nat.le_of_ble_eq_true rfl, Nat.le_of_ble_eq_true rfl⟩) (hm.lv 0 (by decide)) rfl rfl hl.1 rfl (Nat.le_of_ble_eq_true rfl) dX5_isPair_3 ⟨Nat.zero_le _, Nat.zero_le _⟩) hS (fun locs hS => ?_)
  refine lv_if_eq (tgt := 21) hx hb dX5_isPair_6 (by decide) (fun hc => absurd hc (by decide)) (fun _ => ?_)
  refine lv_aload_n hx hb dX5_isPair_9 rfl (lv_at hl 0 rfl) ?_
  refine lv_iload_n hx hb dX5_isPair_10 rfl (lv_at hl 2 rfl) ?_
  refine kgo_pi (v := 0) (kc_V (As := [.int y]) (rest := [.ref (bd 0)]) S hE hS hAb (cm_isRegionF ε l hm hB h) (cwV 1 hts gX5_isPair_X5_isRegion rfl rfl rfl (by decide +kernel) ⟨Nat.le_of_ble_eq_true rfl, Nat.le_of_ble_eq_true rfl⟩) (hm.lv 0 (by decide)) rfl rfl hl.1 rfl (Nat.le_of_ble_eq_true rfl) dX5_isPair_11 ⟨Nat.zero_le _, Nat.zero_le _⟩) hS (fun locs hS => ?_)
  refine lv_if_eq (tgt := 21) hx hb dX5_isPair_14 (by decide) (fun _ => ?_) (fun hc => absurd (by decide) hc)
  refine lv_iconst (v := 1) hx hb dX5_isPair_21 (by decide) ?_
  refine kr_top (y := nI 1) (rfl) ?_
  refine kr_put (T := TX5) (N := 28) (v := .int (nI 1)) (ty := .int) hx hb hts hown hK hS (hm.lv 0 (by decide)) (hm.1 0 (by decide)).2 rfl kin_X5_isPair_X5 tyX5 tyX5_ok nmX5 27 (by decide) "ProbewebModel" (hts (.fieldLink RX5 78 "ProbewebModel" "thrown" "I") (by decide +kernel)) (fun _ h => h) rfl (by decide +kernel) rfl rfl (Nat.le_of_ble_eq_true rfl) dX5_isPair_22 (fun H1 locs hU ho hS => ?_)
  have hm := km_p35 (v := 1) hm hU ho
  clear hU ho
  have hB : mB (mT τ 1) := hB
  refine lv_aload_n hx hb dX5_isPair_25 rfl (lv_at hl 0 rfl) ?_
  refine kr_get (T := TX5) (N := 28) hx hb hts hown hK (hm.lv 0 (by decide)) rfl kin_X5_isPair_X5 27 (by decide) (by decide +kernel) rfl dX5_isPair_26 ?_
  refine kr_top (y := 1) (rfl) ?_
  refine lv_if_ne (tgt := 36) hx hb dX5_isPair_29 (by decide) (fun _ => ?_) (fun hc => absurd hc (by decide))
  refine lv_iconst (v := 0) hx hb dX5_isPair_36 (by decide) ?_
  refine kend_z S hr hlocks hS ⟨rfl, hm⟩ (Or.inl rfl) dX5_isPair_37
theorem kin_X5_repetition_X5 : ∀ w ∈ wsX50, w ∈ wsX5_repetition := by decide +kernel
set_option maxHeartbeats 4000000 in
set_option maxRecDepth 100000 in
theorem cm_repetition (ε : kEnv) (l : Launch) {A : Nat → Prop} {bd : Nat → Nat} {τ : kS} {H : Heap} {i r : Nat} (hAb : ∀ q, A q → kHi ε q) (hm : kM ε A bd τ H) (hB : mB τ) (hi : i < τ 32 0) (hr0 : r < τ 31 0) : kMi ε l yX5_repetition wsX5_repetition ({ frames := 6, cells := 0, slots := 0, locals := 140 }) [.ref (bd 0), .int (nI i), .int (nI r)] H A (0) (0) (fun v9 H' => v9 = nI (τ 16 (6 * i + r)) ∧ kM ε A bd (mT τ 0) H') := by
  refine kof (cc := cX5_repetition) (maxL := 3) (ret := (some .int)) (by decide) rfl (Nat.le_of_ble_eq_true rfl) ?_
  intro p e s m below meth c ls S hr hlocks hin hH hE hl
  have S : CallFix p m c cX5_repetition 3 s _ wsX5_repetition RX5 := S
  have hx := S.1
  have hb := S.2.1
  have hown : s.vm.findClass RX5 = some m.cls := S.2.2.2.1
  have hts := S.2.2.2.2
  have hK := hE.1
  have hS : va_S A s.heap H [] := by rw [hH]; exact va_S.rf
  have hl : lv_has ls 3 [(0, .ref (bd 0)), (1, .int (nI i)), (2, .int (nI r))] := hl
  have hnR := hB.nR
  have hnC := hB.nC
  have hnW := hB.nW
  have hnA := hB.nA
  have hmn := hB.min
  refine lv_aload_n hx hb dX5_repetition_0 rfl (lv_at hl 0 rfl) ?_
  refine lv_iload_n hx hb dX5_repetition_1 rfl (lv_at hl 1 rfl) ?_
  refine lv_iload_n hx hb dX5_repetition_2 rfl (lv_at hl 2 rfl) ?_
  refine kgo_i (kc_V (As := [.int (nI i), .int (nI r)]) (rest := []) S hE hS hAb (cm_isPair ε l hAb hm hB hi hr0) (cwV 2 hts gX5_repetition_X5_isPair rfl rfl rfl (by decide +kernel) ⟨Nat.le_of_ble_eq_true rfl, Nat.le_of_ble_eq_true rfl⟩) (hm.lv 0 (by decide)) rfl rfl hl.1 rfl (Nat.le_of_ble_eq_true rfl) dX5_repetition_3 ⟨Nat.zero_le _, Nat.zero_le _⟩) hS (fun _ h => h) (fun v9 H1 locs hp hz hq hS => ?_)
  obtain ⟨rfl, hm⟩ := hp
  have hB : mB (mT τ 0) := hB
  refine lv_if_eq (tgt := 23) hx hb dX5_repetition_6 (by decide) (fun hc => absurd hc (by decide)) (fun _ => ?_)
  refine lv_aload_n hx hb dX5_repetition_9 rfl (lv_at hl 0 rfl) ?_
  refine kr_get (T := TX5) (N := 28) hx hb hts hown hK (hm.lv 0 (by decide)) rfl kin_X5_repetition_X5 18 (by decide) (by decide +kernel) rfl dX5_repetition_10 ?_
  refine lv_bipush (v := 6) hx hb dX5_repetition_13 (by decide) ?_
  refine lv_iload_n hx hb dX5_repetition_15 rfl (lv_at hl 1 rfl) ?_
  refine lv_imul hx hb dX5_repetition_16 ?_
  refine kr_top (y := nI (6 * i)) (nI_mul 6 i) ?_
  refine lv_iload_n hx hb dX5_repetition_17 rfl (lv_at hl 2 rfl) ?_
  refine lv_iadd hx hb dX5_repetition_18 ?_
  refine kr_top (y := nI (6 * i + r)) (nI_add _ _) ?_
  refine kr_ild hx hb hK (hm.lv 16 (by decide)) (j := 6 * i + r) ((show 6 * i + r < 48 by omega)) (nI_clamp (ks31 ((show 6 * i + r < 48 by omega)))) (nI_pos (ks31 ((show 6 * i + r < 48 by omega)))) (x := nI ((mT τ 0) 16 (6 * i + r))) rfl dX5_repetition_19 ?_
  refine lv_goto (tgt := 24) hx hb dX5_repetition_20 (by decide) ?_
  refine kend_i S hr hlocks hS ⟨rfl, hm⟩ dX5_repetition_24
set_option maxHeartbeats 4000000 in
set_option maxRecDepth 100000 in
theorem cm_repetitionX1 (ε : kEnv) (l : Launch) {A : Nat → Prop} {bd : Nat → Nat} {τ : kS} {H : Heap} {x y : Int32} (hAb : ∀ q, A q → kHi ε q) (hm : kM ε A bd τ H) (hB : mB τ) (h : x < 0 ∨ nI (τ 32 0) ≤ x) : kMi ε l yX5_repetition wsX5_repetition ({ frames := 6, cells := 0, slots := 0, locals := 140 }) [.ref (bd 0), .int x, .int y] H A (0) (0) (fun v9 H' => v9 = 0 ∧ kM ε A bd (mT τ 1) H') := by
  refine kof (cc := cX5_repetition) (maxL := 3) (ret := (some .int)) (by decide) rfl (Nat.le_of_ble_eq_true rfl) ?_
  intro p e s m below meth c ls S hr hlocks hin hH hE hl
  have S : CallFix p m c cX5_repetition 3 s _ wsX5_repetition RX5 := S
  have hx := S.1
  have hb := S.2.1
  have hown : s.vm.findClass RX5 = some m.cls := S.2.2.2.1
  have hts := S.2.2.2.2
  have hK := hE.1
  have hS : va_S A s.heap H [] := by rw [hH]; exact va_S.rf
  have hl : lv_has ls 3 [(0, .ref (bd 0)), (1, .int x), (2, .int y)] := hl
  have hnR := hB.nR
  have hnC := hB.nC
  have hnW := hB.nW
  have hnA := hB.nA
  have hmn := hB.min
  refine lv_aload_n hx hb dX5_repetition_0 rfl (lv_at hl 0 rfl) ?_
  refine lv_iload_n hx hb dX5_repetition_1 rfl (lv_at hl 1 rfl) ?_
  refine lv_iload_n hx hb dX5_repetition_2 rfl (lv_at hl 2 rfl) ?_
  refine kgo_i (kc_V (As := [.int x, .int y]) (rest := []) S hE hS hAb (cm_isPairX1 ε l hAb hm hB h) (cwV 2 hts gX5_repetition_X5_isPair rfl rfl rfl (by decide +kernel) ⟨Nat.le_of_ble_eq_true rfl, Nat.le_of_ble_eq_true rfl⟩) (hm.lv 0 (by decide)) rfl rfl hl.1 rfl (Nat.le_of_ble_eq_true rfl) dX5_repetition_3 ⟨Nat.zero_le _, Nat.zero_le _⟩) hS (fun _ h => h) (fun v9 H1 locs hp hz hq hS => ?_)
  obtain ⟨rfl, hm⟩ := hp
  have hB : mB (mT τ 1) := hB
  refine lv_if_eq (tgt := 23) hx hb dX5_repetition_6 (by decide) (fun _ => ?_) (fun hc => absurd (by decide) hc)
  refine lv_iconst (v := 0) hx hb dX5_repetition_23 (by decide) ?_
  refine kend_i S hr hlocks hS ⟨rfl, hm⟩ dX5_repetition_24
set_option maxHeartbeats 4000000 in
set_option maxRecDepth 100000 in
theorem cm_repetitionX2 (ε : kEnv) (l : Launch) {A : Nat → Prop} {bd : Nat → Nat} {τ : kS} {H : Heap} {i : Nat} {y : Int32} (hAb : ∀ q, A q → kHi ε q) (hm : kM ε A bd τ H) (hB : mB τ) (hi : i < τ 32 0) (h : y < 0 ∨ nI (τ 31 0) ≤ y) : kMi ε l yX5_repetition wsX5_repetition ({ frames := 6, cells := 0, slots := 0, locals := 140 }) [.ref (bd 0), .int (nI i), .int y] H A (0) (0) (fun v9 H' => v9 = 0 ∧ kM ε A bd (mT τ 1) H') := by
  refine kof (cc := cX5_repetition) (maxL := 3) (ret := (some .int)) (by decide) rfl (Nat.le_of_ble_eq_true rfl) ?_
  intro p e s m below meth c ls S hr hlocks hin hH hE hl
  have S : CallFix p m c cX5_repetition 3 s _ wsX5_repetition RX5 := S
  have hx := S.1
  have hb := S.2.1
  have hown : s.vm.findClass RX5 = some m.cls := S.2.2.2.1
  have hts := S.2.2.2.2
  have hK := hE.1
  have hS : va_S A s.heap H [] := by rw [hH]; exact va_S.rf
  have hl : lv_has ls 3 [(0, .ref (bd 0)), (1, .int (nI i)), (2, .int y)] := hl
  have hnR := hB.nR
  have hnC := hB.nC
  have hnW := hB.nW
  have hnA := hB.nA
  have hmn := hB.min
  refine lv_aload_n hx hb dX5_repetition_0 rfl (lv_at hl 0 rfl) ?_
  refine lv_iload_n hx hb dX5_repetition_1 rfl (lv_at hl 1 rfl) ?_
  refine lv_iload_n hx hb dX5_repetition_2 rfl (lv_at hl 2 rfl) ?_
  refine kgo_i (kc_V (As := [.int (nI i), .int y]) (rest := []) S hE hS hAb (cm_isPairX2 ε l hAb hm hB hi h) (cwV 2 hts gX5_repetition_X5_isPair rfl rfl rfl (by decide +kernel) ⟨Nat.le_of_ble_eq_true rfl, Nat.le_of_ble_eq_true rfl⟩) (hm.lv 0 (by decide)) rfl rfl hl.1 rfl (Nat.le_of_ble_eq_true rfl) dX5_repetition_3 ⟨Nat.zero_le _, Nat.zero_le _⟩) hS (fun _ h => h) (fun v9 H1 locs hp hz hq hS => ?_)
  obtain ⟨rfl, hm⟩ := hp
  have hB : mB (mT τ 1) := hB
  refine lv_if_eq (tgt := 23) hx hb dX5_repetition_6 (by decide) (fun _ => ?_) (fun hc => absurd (by decide) hc)
  refine lv_iconst (v := 0) hx hb dX5_repetition_23 (by decide) ?_
  refine kend_i S hr hlocks hS ⟨rfl, hm⟩ dX5_repetition_24
theorem kin_X5_vote_X5 : ∀ w ∈ wsX50, w ∈ wsX5_vote := by decide +kernel
set_option maxHeartbeats 4000000 in
set_option maxRecDepth 100000 in
theorem cm_vote (ε : kEnv) (l : Launch) {A : Nat → Prop} {bd : Nat → Nat} {τ : kS} {H : Heap} {i r : Nat} (hAb : ∀ q, A q → kHi ε q) (hm : kM ε A bd τ H) (hB : mB τ) (hi : i < τ 32 0) (hr0 : r < τ 31 0) : kMi ε l yX5_vote wsX5_vote ({ frames := 6, cells := 0, slots := 0, locals := 140 }) [.ref (bd 0), .int (nI i), .int (nI r)] H A (0) (0) (fun v9 H' => v9 = nI (τ 15 (6 * i + r)) ∧ kM ε A bd (mT τ 0) H') := by
  refine kof (cc := cX5_vote) (maxL := 3) (ret := (some .int)) (by decide) rfl (Nat.le_of_ble_eq_true rfl) ?_
  intro p e s m below meth c ls S hr hlocks hin hH hE hl
  have S : CallFix p m c cX5_vote 3 s _ wsX5_vote RX5 := S
  have hx := S.1
  have hb := S.2.1
  have hown : s.vm.findClass RX5 = some m.cls := S.2.2.2.1
  have hts := S.2.2.2.2
  have hK := hE.1
  have hS : va_S A s.heap H [] := by rw [hH]; exact va_S.rf
  have hl : lv_has ls 3 [(0, .ref (bd 0)), (1, .int (nI i)), (2, .int (nI r))] := hl
  have hnR := hB.nR
  have hnC := hB.nC
  have hnW := hB.nW
  have hnA := hB.nA
  have hmn := hB.min
  refine lv_aload_n hx hb dX5_vote_0 rfl (lv_at hl 0 rfl) ?_
  refine lv_iload_n hx hb dX5_vote_1 rfl (lv_at hl 1 rfl) ?_
  refine lv_iload_n hx hb dX5_vote_2 rfl (lv_at hl 2 rfl) ?_
  refine kgo_i (kc_V (As := [.int (nI i), .int (nI r)]) (rest := []) S hE hS hAb (cm_isPair ε l hAb hm hB hi hr0) (cwV 2 hts gX5_vote_X5_isPair rfl rfl rfl (by decide +kernel) ⟨Nat.le_of_ble_eq_true rfl, Nat.le_of_ble_eq_true rfl⟩) (hm.lv 0 (by decide)) rfl rfl hl.1 rfl (Nat.le_of_ble_eq_true rfl) dX5_vote_3 ⟨Nat.zero_le _, Nat.zero_le _⟩) hS (fun _ h => h) (fun v9 H1 locs hp hz hq hS => ?_)
  obtain ⟨rfl, hm⟩ := hp
  have hB : mB (mT τ 0) := hB
  refine lv_if_eq (tgt := 23) hx hb dX5_vote_6 (by decide) (fun hc => absurd hc (by decide)) (fun _ => ?_)
  refine lv_aload_n hx hb dX5_vote_9 rfl (lv_at hl 0 rfl) ?_
  refine kr_get (T := TX5) (N := 28) hx hb hts hown hK (hm.lv 0 (by decide)) rfl kin_X5_vote_X5 17 (by decide) (by decide +kernel) rfl dX5_vote_10 ?_
  refine lv_bipush (v := 6) hx hb dX5_vote_13 (by decide) ?_
  refine lv_iload_n hx hb dX5_vote_15 rfl (lv_at hl 1 rfl) ?_
  refine lv_imul hx hb dX5_vote_16 ?_
  refine kr_top (y := nI (6 * i)) (nI_mul 6 i) ?_
  refine lv_iload_n hx hb dX5_vote_17 rfl (lv_at hl 2 rfl) ?_
  refine lv_iadd hx hb dX5_vote_18 ?_
  refine kr_top (y := nI (6 * i + r)) (nI_add _ _) ?_
  refine kr_ild hx hb hK (hm.lv 15 (by decide)) (j := 6 * i + r) ((show 6 * i + r < 48 by omega)) (nI_clamp (ks31 ((show 6 * i + r < 48 by omega)))) (nI_pos (ks31 ((show 6 * i + r < 48 by omega)))) (x := nI ((mT τ 0) 15 (6 * i + r))) rfl dX5_vote_19 ?_
  refine lv_goto (tgt := 24) hx hb dX5_vote_20 (by decide) ?_
  refine kend_i S hr hlocks hS ⟨rfl, hm⟩ dX5_vote_24
set_option maxHeartbeats 4000000 in
set_option maxRecDepth 100000 in
theorem cm_voteX1 (ε : kEnv) (l : Launch) {A : Nat → Prop} {bd : Nat → Nat} {τ : kS} {H : Heap} {x y : Int32} (hAb : ∀ q, A q → kHi ε q) (hm : kM ε A bd τ H) (hB : mB τ) (h : x < 0 ∨ nI (τ 32 0) ≤ x) : kMi ε l yX5_vote wsX5_vote ({ frames := 6, cells := 0, slots := 0, locals := 140 }) [.ref (bd 0), .int x, .int y] H A (0) (0) (fun v9 H' => v9 = 0 ∧ kM ε A bd (mT τ 1) H') := by
  refine kof (cc := cX5_vote) (maxL := 3) (ret := (some .int)) (by decide) rfl (Nat.le_of_ble_eq_true rfl) ?_
  intro p e s m below meth c ls S hr hlocks hin hH hE hl
  have S : CallFix p m c cX5_vote 3 s _ wsX5_vote RX5 := S
  have hx := S.1
  have hb := S.2.1
  have hown : s.vm.findClass RX5 = some m.cls := S.2.2.2.1
  have hts := S.2.2.2.2
  have hK := hE.1
  have hS : va_S A s.heap H [] := by rw [hH]; exact va_S.rf
  have hl : lv_has ls 3 [(0, .ref (bd 0)), (1, .int x), (2, .int y)] := hl
  have hnR := hB.nR
  have hnC := hB.nC
  have hnW := hB.nW
  have hnA := hB.nA
  have hmn := hB.min
  refine lv_aload_n hx hb dX5_vote_0 rfl (lv_at hl 0 rfl) ?_
  refine lv_iload_n hx hb dX5_vote_1 rfl (lv_at hl 1 rfl) ?_
  refine lv_iload_n hx hb dX5_vote_2 rfl (lv_at hl 2 rfl) ?_
  refine kgo_i (kc_V (As := [.int x, .int y]) (rest := []) S hE hS hAb (cm_isPairX1 ε l hAb hm hB h) (cwV 2 hts gX5_vote_X5_isPair rfl rfl rfl (by decide +kernel) ⟨Nat.le_of_ble_eq_true rfl, Nat.le_of_ble_eq_true rfl⟩) (hm.lv 0 (by decide)) rfl rfl hl.1 rfl (Nat.le_of_ble_eq_true rfl) dX5_vote_3 ⟨Nat.zero_le _, Nat.zero_le _⟩) hS (fun _ h => h) (fun v9 H1 locs hp hz hq hS => ?_)
  obtain ⟨rfl, hm⟩ := hp
  have hB : mB (mT τ 1) := hB
  refine lv_if_eq (tgt := 23) hx hb dX5_vote_6 (by decide) (fun _ => ?_) (fun hc => absurd (by decide) hc)
  refine lv_iconst (v := 0) hx hb dX5_vote_23 (by decide) ?_
  refine kend_i S hr hlocks hS ⟨rfl, hm⟩ dX5_vote_24
set_option maxHeartbeats 4000000 in
set_option maxRecDepth 100000 in
theorem cm_voteX2 (ε : kEnv) (l : Launch) {A : Nat → Prop} {bd : Nat → Nat} {τ : kS} {H : Heap} {i : Nat} {y : Int32} (hAb : ∀ q, A q → kHi ε q) (hm : kM ε A bd τ H) (hB : mB τ) (hi : i < τ 32 0) (h : y < 0 ∨ nI (τ 31 0) ≤ y) : kMi ε l yX5_vote wsX5_vote ({ frames := 6, cells := 0, slots := 0, locals := 140 }) [.ref (bd 0), .int (nI i), .int y] H A (0) (0) (fun v9 H' => v9 = 0 ∧ kM ε A bd (mT τ 1) H') := by
  refine kof (cc := cX5_vote) (maxL := 3) (ret := (some .int)) (by decide) rfl (Nat.le_of_ble_eq_true rfl) ?_
  intro p e s m below meth c ls S hr hlocks hin hH hE hl
  have S : CallFix p m c cX5_vote 3 s _ wsX5_vote RX5 := S
  have hx := S.1
  have hb := S.2.1
  have hown : s.vm.findClass RX5 = some m.cls := S.2.2.2.1
  have hts := S.2.2.2.2
  have hK := hE.1
  have hS : va_S A s.heap H [] := by rw [hH]; exact va_S.rf
  have hl : lv_has ls 3 [(0, .ref (bd 0)), (1, .int (nI i)), (2, .int y)] := hl
  have hnR := hB.nR
  have hnC := hB.nC
  have hnW := hB.nW
  have hnA := hB.nA
  have hmn := hB.min
  refine lv_aload_n hx hb dX5_vote_0 rfl (lv_at hl 0 rfl) ?_
  refine lv_iload_n hx hb dX5_vote_1 rfl (lv_at hl 1 rfl) ?_
  refine lv_iload_n hx hb dX5_vote_2 rfl (lv_at hl 2 rfl) ?_
  refine kgo_i (kc_V (As := [.int (nI i), .int y]) (rest := []) S hE hS hAb (cm_isPairX2 ε l hAb hm hB hi h) (cwV 2 hts gX5_vote_X5_isPair rfl rfl rfl (by decide +kernel) ⟨Nat.le_of_ble_eq_true rfl, Nat.le_of_ble_eq_true rfl⟩) (hm.lv 0 (by decide)) rfl rfl hl.1 rfl (Nat.le_of_ble_eq_true rfl) dX5_vote_3 ⟨Nat.zero_le _, Nat.zero_le _⟩) hS (fun _ h => h) (fun v9 H1 locs hp hz hq hS => ?_)
  obtain ⟨rfl, hm⟩ := hp
  have hB : mB (mT τ 1) := hB
  refine lv_if_eq (tgt := 23) hx hb dX5_vote_6 (by decide) (fun _ => ?_) (fun hc => absurd (by decide) hc)
  refine lv_iconst (v := 0) hx hb dX5_vote_23 (by decide) ?_
  refine kend_i S hr hlocks hS ⟨rfl, hm⟩ dX5_vote_24
theorem kin_X5_setDown_X5 : ∀ w ∈ wsX50, w ∈ wsX5_setDown := by decide +kernel
set_option maxHeartbeats 4000000 in
set_option maxRecDepth 100000 in
theorem cm_setDown (ε : kEnv) (l : Launch) {A : Nat → Prop} {bd : Nat → Nat} {τ : kS} {H : Heap} {i r v : Nat} (hAb : ∀ q, A q → kHi ε q) (hm : kM ε A bd τ H) (hB : mB τ) (hi : i < τ 32 0) (hr0 : r < τ 31 0) (hv : v ≤ 1) : kMi ε l yX5_setDown wsX5_setDown ({ frames := 6, cells := 0, slots := 0, locals := 140 }) [.ref (bd 0), .int (nI i), .int (nI r), .int (nI v)] H A (0) (0) (fun v9 H' => v9 = nI (τ 14 (6 * i + r)) ∧ kM ε A bd (ku (mT τ 0) 14 (6 * i + r) v) H') := by
  refine kof (cc := cX5_setDown) (maxL := 5) (ret := (some .boolean)) (by decide) rfl (Nat.le_of_ble_eq_true rfl) ?_
  intro p e s m below meth c ls S hr hlocks hin hH hE hl
  have S : CallFix p m c cX5_setDown 5 s _ wsX5_setDown RX5 := S
  have hx := S.1
  have hb := S.2.1
  have hown : s.vm.findClass RX5 = some m.cls := S.2.2.2.1
  have hts := S.2.2.2.2
  have hK := hE.1
  have hS : va_S A s.heap H [] := by rw [hH]; exact va_S.rf
  have hl : lv_has ls 5 [(0, .ref (bd 0)), (1, .int (nI i)), (2, .int (nI r)), (3, .int (nI v))] := hl
  have hnR := hB.nR
  have hnC := hB.nC
  have hnW := hB.nW
  have hnA := hB.nA
  have hmn := hB.min
  have hpr := hB.pr (6 * i + r)
  refine lv_aload_n hx hb dX5_setDown_0 rfl (lv_at hl 0 rfl) ?_
  refine lv_aload_n hx hb dX5_setDown_1 rfl (lv_at hl 0 rfl) ?_
  refine lv_iload_n hx hb dX5_setDown_2 rfl (lv_at hl 1 rfl) ?_
  refine kgo_pi (v := 1) (kc_V (As := [.int (nI i)]) (rest := [.ref (bd 0)]) S hE hS hAb (cm_isCheckT ε l hm hB hi) (cwV 1 hts gX5_setDown_X5_isCheck rfl rfl rfl (by decide +kernel) ⟨Nat.le_of_ble_eq_true rfl, Nat.le_of_ble_eq_true rfl⟩) (hm.lv 0 (by decide)) rfl rfl hl.1 rfl (Nat.le_of_ble_eq_true rfl) dX5_setDown_3 ⟨Nat.zero_le _, Nat.zero_le _⟩) hS (fun locs hS => ?_)
  refine lv_if_eq (tgt := 21) hx hb dX5_setDown_6 (by decide) (fun hc => absurd hc (by decide)) (fun _ => ?_)
  refine lv_aload_n hx hb dX5_setDown_9 rfl (lv_at hl 0 rfl) ?_
  refine lv_iload_n hx hb dX5_setDown_10 rfl (lv_at hl 2 rfl) ?_
  refine kgo_pi (v := 1) (kc_V (As := [.int (nI r)]) (rest := [.ref (bd 0)]) S hE hS hAb (cm_isRegionT ε l hm hB hr0) (cwV 1 hts gX5_setDown_X5_isRegion rfl rfl rfl (by decide +kernel) ⟨Nat.le_of_ble_eq_true rfl, Nat.le_of_ble_eq_true rfl⟩) (hm.lv 0 (by decide)) rfl rfl hl.1 rfl (Nat.le_of_ble_eq_true rfl) dX5_setDown_11 ⟨Nat.zero_le _, Nat.zero_le _⟩) hS (fun locs hS => ?_)
  refine lv_if_eq (tgt := 21) hx hb dX5_setDown_14 (by decide) (fun hc => absurd hc (by decide)) (fun _ => ?_)
  refine lv_iconst (v := 0) hx hb dX5_setDown_17 (by decide) ?_
  refine lv_goto (tgt := 22) hx hb dX5_setDown_18 (by decide) ?_
  refine kr_top (y := nI 0) (rfl) ?_
  refine kr_put (T := TX5) (N := 28) (v := .int (nI 0)) (ty := .int) hx hb hts hown hK hS (hm.lv 0 (by decide)) (hm.1 0 (by decide)).2 rfl kin_X5_setDown_X5 tyX5 tyX5_ok nmX5 27 (by decide) "ProbewebModel" (hts (.fieldLink RX5 78 "ProbewebModel" "thrown" "I") (by decide +kernel)) (fun _ h => h) rfl (by decide +kernel) rfl rfl (Nat.le_of_ble_eq_true rfl) dX5_setDown_22 (fun H1 locs hU ho hS => ?_)
  have hm := km_p35 (v := 0) hm hU ho
  clear hU ho
  have hB : mB (mT τ 0) := hB
  refine lv_aload_n hx hb dX5_setDown_25 rfl (lv_at hl 0 rfl) ?_
  refine kr_get (T := TX5) (N := 28) hx hb hts hown hK (hm.lv 0 (by decide)) rfl kin_X5_setDown_X5 27 (by decide) (by decide +kernel) rfl dX5_setDown_26 ?_
  refine kr_top (y := 0) (rfl) ?_
  refine lv_if_le (tgt := 34) hx hb dX5_setDown_29 (by decide) (fun _ => ?_) (fun hc => absurd (by decide) hc)
  refine lv_aload_n hx hb dX5_setDown_34 rfl (lv_at hl 0 rfl) ?_
  refine kr_get (T := TX5) (N := 28) hx hb hts hown hK (hm.lv 0 (by decide)) rfl kin_X5_setDown_X5 16 (by decide) (by decide +kernel) rfl dX5_setDown_35 ?_
  refine lv_bipush (v := 6) hx hb dX5_setDown_38 (by decide) ?_
  refine lv_iload_n hx hb dX5_setDown_40 rfl (lv_at hl 1 rfl) ?_
  refine lv_imul hx hb dX5_setDown_41 ?_
  refine kr_top (y := nI (6 * i)) (nI_mul 6 i) ?_
  refine lv_iload_n hx hb dX5_setDown_42 rfl (lv_at hl 2 rfl) ?_
  refine lv_iadd hx hb dX5_setDown_43 ?_
  refine kr_top (y := nI (6 * i + r)) (nI_add _ _) ?_
  refine kr_zld hx hb hK (hm.lv 14 (by decide)) (j := 6 * i + r) ((show 6 * i + r < 48 by omega)) (nI_clamp (ks31 ((show 6 * i + r < 48 by omega)))) (nI_pos (ks31 ((show 6 * i + r < 48 by omega)))) (x := nI ((ku τ 35 0 0) 14 (6 * i + r))) rfl dX5_setDown_44 ?_
  refine lv_istore (lv' := [(4, .int (nI ((ku τ 35 0 0) 14 (6 * i + r)))), (0, .ref (bd 0)), (1, .int (nI i)), (2, .int (nI r)), (3, .int (nI v))]) hx hb dX5_setDown_45 hl (by decide) rfl (fun ls hl => ?_)
  refine lv_aload_n hx hb dX5_setDown_47 rfl (lv_at hl 1 rfl) ?_
  refine kr_get (T := TX5) (N := 28) hx hb hts hown hK (hm.lv 0 (by decide)) rfl kin_X5_setDown_X5 16 (by decide) (by decide +kernel) rfl dX5_setDown_48 ?_
  refine lv_bipush (v := 6) hx hb dX5_setDown_51 (by decide) ?_
  refine lv_iload_n hx hb dX5_setDown_53 rfl (lv_at hl 2 rfl) ?_
  refine lv_imul hx hb dX5_setDown_54 ?_
  refine kr_top (y := nI (6 * i)) (nI_mul 6 i) ?_
  refine lv_iload_n hx hb dX5_setDown_55 rfl (lv_at hl 3 rfl) ?_
  refine lv_iadd hx hb dX5_setDown_56 ?_
  refine kr_top (y := nI (6 * i + r)) (nI_add _ _) ?_
  refine lv_iload_n hx hb dX5_setDown_57 rfl (lv_at hl 4 rfl) ?_
  refine kr_zst hx hb hK hS (hm.lv 14 (by decide)) (hm.1 14 (by decide)).2 (j := 6 * i + r) (x := nI v) ((show 6 * i + r < 48 by omega)) (nI_clamp (ks31 ((show 6 * i + r < 48 by omega)))) (nI_pos (ks31 ((show 6 * i + r < 48 by omega)))) (nI_z hv) dX5_setDown_58 (fun H1 locs hU ho hS => ?_)
  have hm := km_p14 (j := 6 * i + r) (v := v) hm hU ho
  clear hU ho
  refine lv_iload hx hb dX5_setDown_59 (lv_at hl 0 rfl) ?_
  refine kend_z S hr hlocks hS ⟨rfl, hm⟩ (nI_01 hpr.1) dX5_setDown_61
set_option maxHeartbeats 4000000 in
set_option maxRecDepth 100000 in
theorem cm_setDownX1 (ε : kEnv) (l : Launch) {A : Nat → Prop} {bd : Nat → Nat} {τ : kS} {H : Heap} {x y z : Int32} (hAb : ∀ q, A q → kHi ε q) (hm : kM ε A bd τ H) (hB : mB τ) (h : x < 0 ∨ nI (τ 32 0) ≤ x) : kMi ε l yX5_setDown wsX5_setDown ({ frames := 6, cells := 0, slots := 0, locals := 140 }) [.ref (bd 0), .int x, .int y, .int z] H A (0) (0) (fun v9 H' => v9 = 0 ∧ kM ε A bd (mT τ 1) H') := by
  refine kof (cc := cX5_setDown) (maxL := 5) (ret := (some .boolean)) (by decide) rfl (Nat.le_of_ble_eq_true rfl) ?_
  intro p e s m below meth c ls S hr hlocks hin hH hE hl
  have S : CallFix p m c cX5_setDown 5 s _ wsX5_setDown RX5 := S
  have hx := S.1
  have hb := S.2.1
  have hown : s.vm.findClass RX5 = some m.cls := S.2.2.2.1
  have hts := S.2.2.2.2
  have hK := hE.1
  have hS : va_S A s.heap H [] := by rw [hH]; exact va_S.rf
  have hl : lv_has ls 5 [(0, .ref (bd 0)), (1, .int x), (2, .int y), (3, .int z)] := hl
  have hnR := hB.nR
  have hnC := hB.nC
  have hnW := hB.nW
  have hnA := hB.nA
  have hmn := hB.min
  refine lv_aload_n hx hb dX5_setDown_0 rfl (lv_at hl 0 rfl) ?_
  refine lv_aload_n hx hb dX5_setDown_1 rfl (lv_at hl 0 rfl) ?_
  refine lv_iload_n hx hb dX5_setDown_2 rfl (lv_at hl 1 rfl) ?_
  refine kgo_pi (v := 0) (kc_V (As := [.int x]) (rest := [.ref (bd 0)]) S hE hS hAb (cm_isCheckF ε l hm hB h) (cwV 1 hts gX5_setDown_X5_isCheck rfl rfl rfl (by decide +kernel) ⟨Nat.le_of_ble_eq_true rfl, Nat.le_of_ble_eq_true rfl⟩) (hm.lv 0 (by decide)) rfl rfl hl.1 rfl (Nat.le_of_ble_eq_true rfl) dX5_setDown_3 ⟨Nat.zero_le _, Nat.zero_le _⟩) hS (fun locs hS => ?_)
  refine lv_if_eq (tgt := 21) hx hb dX5_setDown_6 (by decide) (fun _ => ?_) (fun hc => absurd (by decide) hc)
  refine lv_iconst (v := 1) hx hb dX5_setDown_21 (by decide) ?_
  refine kr_top (y := nI 1) (rfl) ?_
  refine kr_put (T := TX5) (N := 28) (v := .int (nI 1)) (ty := .int) hx hb hts hown hK hS (hm.lv 0 (by decide)) (hm.1 0 (by decide)).2 rfl kin_X5_setDown_X5 tyX5 tyX5_ok nmX5 27 (by decide) "ProbewebModel" (hts (.fieldLink RX5 78 "ProbewebModel" "thrown" "I") (by decide +kernel)) (fun _ h => h) rfl (by decide +kernel) rfl rfl (Nat.le_of_ble_eq_true rfl) dX5_setDown_22 (fun H1 locs hU ho hS => ?_)
  have hm := km_p35 (v := 1) hm hU ho
  clear hU ho
  have hB : mB (mT τ 1) := hB
  refine lv_aload_n hx hb dX5_setDown_25 rfl (lv_at hl 0 rfl) ?_
  refine kr_get (T := TX5) (N := 28) hx hb hts hown hK (hm.lv 0 (by decide)) rfl kin_X5_setDown_X5 27 (by decide) (by decide +kernel) rfl dX5_setDown_26 ?_
  refine kr_top (y := 1) (rfl) ?_
  refine lv_if_le (tgt := 34) hx hb dX5_setDown_29 (by decide) (fun hc => absurd hc (by decide)) (fun _ => ?_)
  refine lv_iconst (v := 0) hx hb dX5_setDown_32 (by decide) ?_
  refine kend_z S hr hlocks hS ⟨rfl, hm⟩ (Or.inl rfl) dX5_setDown_33
set_option maxHeartbeats 4000000 in
set_option maxRecDepth 100000 in
theorem cm_setDownX2 (ε : kEnv) (l : Launch) {A : Nat → Prop} {bd : Nat → Nat} {τ : kS} {H : Heap} {i : Nat} {y z : Int32} (hAb : ∀ q, A q → kHi ε q) (hm : kM ε A bd τ H) (hB : mB τ) (hi : i < τ 32 0) (h : y < 0 ∨ nI (τ 31 0) ≤ y) : kMi ε l yX5_setDown wsX5_setDown ({ frames := 6, cells := 0, slots := 0, locals := 140 }) [.ref (bd 0), .int (nI i), .int y, .int z] H A (0) (0) (fun v9 H' => v9 = 0 ∧ kM ε A bd (mT τ 1) H') := by
  refine kof (cc := cX5_setDown) (maxL := 5) (ret := (some .boolean)) (by decide) rfl (Nat.le_of_ble_eq_true rfl) ?_
  intro p e s m below meth c ls S hr hlocks hin hH hE hl
  have S : CallFix p m c cX5_setDown 5 s _ wsX5_setDown RX5 := S
  have hx := S.1
  have hb := S.2.1
  have hown : s.vm.findClass RX5 = some m.cls := S.2.2.2.1
  have hts := S.2.2.2.2
  have hK := hE.1
  have hS : va_S A s.heap H [] := by rw [hH]; exact va_S.rf
  have hl : lv_has ls 5 [(0, .ref (bd 0)), (1, .int (nI i)), (2, .int y), (3, .int z)] := hl
  have hnR := hB.nR
  have hnC := hB.nC
  have hnW := hB.nW
  have hnA := hB.nA
  have hmn := hB.min
  refine lv_aload_n hx hb dX5_setDown_0 rfl (lv_at hl 0 rfl) ?_
  refine lv_aload_n hx hb dX5_setDown_1 rfl (lv_at hl 0 rfl) ?_
  refine lv_iload_n hx hb dX5_setDown_2 rfl (lv_at hl 1 rfl) ?_
  refine kgo_pi (v := 1) (kc_V (As := [.int (nI i)]) (rest := [.ref (bd 0)]) S hE hS hAb (cm_isCheckT ε l hm hB hi) (cwV 1 hts gX5_setDown_X5_isCheck rfl rfl rfl (by decide +kernel) ⟨Nat.le_of_ble_eq_true rfl, Nat.le_of_ble_eq_true rfl⟩) (hm.lv 0 (by decide)) rfl rfl hl.1 rfl (Nat.le_of_ble_eq_true rfl) dX5_setDown_3 ⟨Nat.zero_le _, Nat.zero_le _⟩) hS (fun locs hS => ?_)
  refine lv_if_eq (tgt := 21) hx hb dX5_setDown_6 (by decide) (fun hc => absurd hc (by decide)) (fun _ => ?_)
  refine lv_aload_n hx hb dX5_setDown_9 rfl (lv_at hl 0 rfl) ?_
  refine lv_iload_n hx hb dX5_setDown_10 rfl (lv_at hl 2 rfl) ?_
  refine kgo_pi (v := 0) (kc_V (As := [.int y]) (rest := [.ref (bd 0)]) S hE hS hAb (cm_isRegionF ε l hm hB h) (cwV 1 hts gX5_setDown_X5_isRegion rfl rfl rfl (by decide +kernel) ⟨Nat.le_of_ble_eq_true rfl, Nat.le_of_ble_eq_true rfl⟩) (hm.lv 0 (by decide)) rfl rfl hl.1 rfl (Nat.le_of_ble_eq_true rfl) dX5_setDown_11 ⟨Nat.zero_le _, Nat.zero_le _⟩) hS (fun locs hS => ?_)
  refine lv_if_eq (tgt := 21) hx hb dX5_setDown_14 (by decide) (fun _ => ?_) (fun hc => absurd (by decide) hc)
  refine lv_iconst (v := 1) hx hb dX5_setDown_21 (by decide) ?_
  refine kr_top (y := nI 1) (rfl) ?_
  refine kr_put (T := TX5) (N := 28) (v := .int (nI 1)) (ty := .int) hx hb hts hown hK hS (hm.lv 0 (by decide)) (hm.1 0 (by decide)).2 rfl kin_X5_setDown_X5 tyX5 tyX5_ok nmX5 27 (by decide) "ProbewebModel" (hts (.fieldLink RX5 78 "ProbewebModel" "thrown" "I") (by decide +kernel)) (fun _ h => h) rfl (by decide +kernel) rfl rfl (Nat.le_of_ble_eq_true rfl) dX5_setDown_22 (fun H1 locs hU ho hS => ?_)
  have hm := km_p35 (v := 1) hm hU ho
  clear hU ho
  have hB : mB (mT τ 1) := hB
  refine lv_aload_n hx hb dX5_setDown_25 rfl (lv_at hl 0 rfl) ?_
  refine kr_get (T := TX5) (N := 28) hx hb hts hown hK (hm.lv 0 (by decide)) rfl kin_X5_setDown_X5 27 (by decide) (by decide +kernel) rfl dX5_setDown_26 ?_
  refine kr_top (y := 1) (rfl) ?_
  refine lv_if_le (tgt := 34) hx hb dX5_setDown_29 (by decide) (fun hc => absurd hc (by decide)) (fun _ => ?_)
  refine lv_iconst (v := 0) hx hb dX5_setDown_32 (by decide) ?_
  refine kend_z S hr hlocks hS ⟨rfl, hm⟩ (Or.inl rfl) dX5_setDown_33
theorem kin_X5_setQuorum_X5 : ∀ w ∈ wsX50, w ∈ wsX5_setQuorum := by decide +kernel
set_option maxHeartbeats 4000000 in
set_option maxRecDepth 100000 in
theorem cm_setQuorum (ε : kEnv) (l : Launch) {A : Nat → Prop} {bd : Nat → Nat} {τ : kS} {H : Heap} {i t : Nat} (hAb : ∀ q, A q → kHi ε q) (hm : kM ε A bd τ H) (hB : mB τ) (hi : i < τ 32 0) (ht1 : 1 ≤ t) (ht2 : t ≤ 6) : kMi ε l yX5_setQuorum wsX5_setQuorum ({ frames := 6, cells := 0, slots := 0, locals := 140 }) [.ref (bd 0), .int (nI i), .int (nI t)] H A (0) (0) (fun v9 H' => v9 = nI (τ 9 i) ∧ kM ε A bd (ku (mT τ 0) 9 i t) H') := by
  refine kof (cc := cX5_setQuorum) (maxL := 4) (ret := (some .int)) (by decide) rfl (Nat.le_of_ble_eq_true rfl) ?_
  intro p e s m below meth c ls S hr hlocks hin hH hE hl
  have S : CallFix p m c cX5_setQuorum 4 s _ wsX5_setQuorum RX5 := S
  have hx := S.1
  have hb := S.2.1
  have hown : s.vm.findClass RX5 = some m.cls := S.2.2.2.1
  have hts := S.2.2.2.2
  have hK := hE.1
  have hS : va_S A s.heap H [] := by rw [hH]; exact va_S.rf
  have hl : lv_has ls 4 [(0, .ref (bd 0)), (1, .int (nI i)), (2, .int (nI t))] := hl
  have hnR := hB.nR
  have hnC := hB.nC
  have hnW := hB.nW
  have hnA := hB.nA
  have hmn := hB.min
  refine lv_aload_n hx hb dX5_setQuorum_0 rfl (lv_at hl 0 rfl) ?_
  refine lv_aload_n hx hb dX5_setQuorum_1 rfl (lv_at hl 0 rfl) ?_
  refine lv_iload_n hx hb dX5_setQuorum_2 rfl (lv_at hl 1 rfl) ?_
  refine kgo_pi (v := 1) (kc_V (As := [.int (nI i)]) (rest := [.ref (bd 0)]) S hE hS hAb (cm_isCheckT ε l hm hB hi) (cwV 1 hts gX5_setQuorum_X5_isCheck rfl rfl rfl (by decide +kernel) ⟨Nat.le_of_ble_eq_true rfl, Nat.le_of_ble_eq_true rfl⟩) (hm.lv 0 (by decide)) rfl rfl hl.1 rfl (Nat.le_of_ble_eq_true rfl) dX5_setQuorum_3 ⟨Nat.zero_le _, Nat.zero_le _⟩) hS (fun locs hS => ?_)
  refine lv_if_ne (tgt := 13) hx hb dX5_setQuorum_6 (by decide) (fun _ => ?_) (fun hc => absurd hc (by decide))
  refine lv_iload_n hx hb dX5_setQuorum_13 rfl (lv_at hl 2 rfl) ?_
  refine lv_iconst (v := 1) hx hb dX5_setQuorum_14 (by decide) ?_
  refine lv_bipush (v := 6) hx hb dX5_setQuorum_15 (by decide) ?_
  refine kgo_pi (v := 1) (kc_S (As := [.int (nI t), .int 1, .int 6]) (rest := [.ref (bd 0)]) S hE hS hAb (cm_isInT ε l (nI_nlt (a := t) (b := 1) ht1 (by omega)) ((nI_leI (a := t) (b := 6) (by omega) (by decide)).mpr ht2)) (va_cwS 3 hts gX5_setQuorum_X5_isIn rfl rfl rfl (by decide +kernel) ⟨Nat.le_of_ble_eq_true rfl, Nat.le_of_ble_eq_true rfl⟩) rfl hl.1 rfl (Nat.le_of_ble_eq_true rfl) dX5_setQuorum_17 ⟨Nat.zero_le _, Nat.zero_le _⟩) hS (fun locs hS => ?_)
  refine lv_if_eq (tgt := 27) hx hb dX5_setQuorum_20 (by decide) (fun hc => absurd hc (by decide)) (fun _ => ?_)
  refine lv_iconst (v := 0) hx hb dX5_setQuorum_23 (by decide) ?_
  refine lv_goto (tgt := 28) hx hb dX5_setQuorum_24 (by decide) ?_
  refine kr_top (y := nI 0) (rfl) ?_
  refine kr_put (T := TX5) (N := 28) (v := .int (nI 0)) (ty := .int) hx hb hts hown hK hS (hm.lv 0 (by decide)) (hm.1 0 (by decide)).2 rfl kin_X5_setQuorum_X5 tyX5 tyX5_ok nmX5 27 (by decide) "ProbewebModel" (hts (.fieldLink RX5 78 "ProbewebModel" "thrown" "I") (by decide +kernel)) (fun _ h => h) rfl (by decide +kernel) rfl rfl (Nat.le_of_ble_eq_true rfl) dX5_setQuorum_28 (fun H1 locs hU ho hS => ?_)
  have hm := km_p35 (v := 0) hm hU ho
  clear hU ho
  have hB : mB (mT τ 0) := hB
  refine lv_aload_n hx hb dX5_setQuorum_31 rfl (lv_at hl 0 rfl) ?_
  refine kr_get (T := TX5) (N := 28) hx hb hts hown hK (hm.lv 0 (by decide)) rfl kin_X5_setQuorum_X5 27 (by decide) (by decide +kernel) rfl dX5_setQuorum_32 ?_
  refine kr_top (y := 0) (rfl) ?_
  refine lv_if_le (tgt := 40) hx hb dX5_setQuorum_35 (by decide) (fun _ => ?_) (fun hc => absurd (by decide) hc)
  refine lv_aload_n hx hb dX5_setQuorum_40 rfl (lv_at hl 0 rfl) ?_
  refine kr_get (T := TX5) (N := 28) hx hb hts hown hK (hm.lv 0 (by decide)) rfl kin_X5_setQuorum_X5 11 (by decide) (by decide +kernel) rfl dX5_setQuorum_41 ?_
  refine lv_iload_n hx hb dX5_setQuorum_44 rfl (lv_at hl 1 rfl) ?_
  refine kr_ild hx hb hK (hm.lv 9 (by decide)) (j := i) ((show i < 8 by omega)) (nI_clamp (ks31 ((show i < 8 by omega)))) (nI_pos (ks31 ((show i < 8 by omega)))) (x := nI ((ku τ 35 0 0) 9 i)) rfl dX5_setQuorum_45 ?_
  refine lv_istore_n (lv' := [(3, .int (nI ((ku τ 35 0 0) 9 i))), (0, .ref (bd 0)), (1, .int (nI i)), (2, .int (nI t))]) hx hb dX5_setQuorum_46 rfl hl (by decide) rfl (fun ls hl => ?_)
  refine lv_aload_n hx hb dX5_setQuorum_47 rfl (lv_at hl 1 rfl) ?_
  refine kr_get (T := TX5) (N := 28) hx hb hts hown hK (hm.lv 0 (by decide)) rfl kin_X5_setQuorum_X5 11 (by decide) (by decide +kernel) rfl dX5_setQuorum_48 ?_
  refine lv_iload_n hx hb dX5_setQuorum_51 rfl (lv_at hl 2 rfl) ?_
  refine lv_iload_n hx hb dX5_setQuorum_52 rfl (lv_at hl 3 rfl) ?_
  refine kr_ist hx hb hK hS (hm.lv 9 (by decide)) (hm.1 9 (by decide)).2 (j := i) (x := nI t) ((show i < 8 by omega)) (nI_clamp (ks31 ((show i < 8 by omega)))) (nI_pos (ks31 ((show i < 8 by omega)))) dX5_setQuorum_53 (fun H1 locs hU ho hS => ?_)
  have hm := km_p9 (j := i) (v := t) hm hU ho
  clear hU ho
  refine lv_iload_n hx hb dX5_setQuorum_54 rfl (lv_at hl 0 rfl) ?_
  refine kend_i S hr hlocks hS ⟨rfl, hm⟩ dX5_setQuorum_55
set_option maxHeartbeats 4000000 in
set_option maxRecDepth 100000 in
theorem cm_setQuorumX1 (ε : kEnv) (l : Launch) {A : Nat → Prop} {bd : Nat → Nat} {τ : kS} {H : Heap} {x y : Int32} (hAb : ∀ q, A q → kHi ε q) (hm : kM ε A bd τ H) (hB : mB τ) (h : x < 0 ∨ nI (τ 32 0) ≤ x) : kMi ε l yX5_setQuorum wsX5_setQuorum ({ frames := 6, cells := 0, slots := 0, locals := 140 }) [.ref (bd 0), .int x, .int y] H A (0) (0) (fun v9 H' => v9 = 0 ∧ kM ε A bd (mT τ 1) H') := by
  refine kof (cc := cX5_setQuorum) (maxL := 4) (ret := (some .int)) (by decide) rfl (Nat.le_of_ble_eq_true rfl) ?_
  intro p e s m below meth c ls S hr hlocks hin hH hE hl
  have S : CallFix p m c cX5_setQuorum 4 s _ wsX5_setQuorum RX5 := S
  have hx := S.1
  have hb := S.2.1
  have hown : s.vm.findClass RX5 = some m.cls := S.2.2.2.1
  have hts := S.2.2.2.2
  have hK := hE.1
  have hS : va_S A s.heap H [] := by rw [hH]; exact va_S.rf
  have hl : lv_has ls 4 [(0, .ref (bd 0)), (1, .int x), (2, .int y)] := hl
  have hnR := hB.nR
  have hnC := hB.nC
  have hnW := hB.nW
  have hnA := hB.nA
  have hmn := hB.min
  refine lv_aload_n hx hb dX5_setQuorum_0 rfl (lv_at hl 0 rfl) ?_
  refine lv_aload_n hx hb dX5_setQuorum_1 rfl (lv_at hl 0 rfl) ?_
  refine lv_iload_n hx hb dX5_setQuorum_2 rfl (lv_at hl 1 rfl) ?_
  refine kgo_pi (v := 0) (kc_V (As := [.int x]) (rest := [.ref (bd 0)]) S hE hS hAb (cm_isCheckF ε l hm hB h) (cwV 1 hts gX5_setQuorum_X5_isCheck rfl rfl rfl (by decide +kernel) ⟨Nat.le_of_ble_eq_true rfl, Nat.le_of_ble_eq_true rfl⟩) (hm.lv 0 (by decide)) rfl rfl hl.1 rfl (Nat.le_of_ble_eq_true rfl) dX5_setQuorum_3 ⟨Nat.zero_le _, Nat.zero_le _⟩) hS (fun locs hS => ?_)
  refine lv_if_ne (tgt := 13) hx hb dX5_setQuorum_6 (by decide) (fun hc => absurd (by decide) hc) (fun _ => ?_)
  refine lv_iconst (v := 1) hx hb dX5_setQuorum_9 (by decide) ?_
  refine lv_goto (tgt := 28) hx hb dX5_setQuorum_10 (by decide) ?_
  refine kr_top (y := nI 1) (rfl) ?_
  refine kr_put (T := TX5) (N := 28) (v := .int (nI 1)) (ty := .int) hx hb hts hown hK hS (hm.lv 0 (by decide)) (hm.1 0 (by decide)).2 rfl kin_X5_setQuorum_X5 tyX5 tyX5_ok nmX5 27 (by decide) "ProbewebModel" (hts (.fieldLink RX5 78 "ProbewebModel" "thrown" "I") (by decide +kernel)) (fun _ h => h) rfl (by decide +kernel) rfl rfl (Nat.le_of_ble_eq_true rfl) dX5_setQuorum_28 (fun H1 locs hU ho hS => ?_)
  have hm := km_p35 (v := 1) hm hU ho
  clear hU ho
  have hB : mB (mT τ 1) := hB
  refine lv_aload_n hx hb dX5_setQuorum_31 rfl (lv_at hl 0 rfl) ?_
  refine kr_get (T := TX5) (N := 28) hx hb hts hown hK (hm.lv 0 (by decide)) rfl kin_X5_setQuorum_X5 27 (by decide) (by decide +kernel) rfl dX5_setQuorum_32 ?_
  refine kr_top (y := 1) (rfl) ?_
  refine lv_if_le (tgt := 40) hx hb dX5_setQuorum_35 (by decide) (fun hc => absurd hc (by decide)) (fun _ => ?_)
  refine lv_iconst (v := 0) hx hb dX5_setQuorum_38 (by decide) ?_
  refine kend_i S hr hlocks hS ⟨rfl, hm⟩ dX5_setQuorum_39
set_option maxHeartbeats 4000000 in
set_option maxRecDepth 100000 in
theorem cm_setQuorumX2 (ε : kEnv) (l : Launch) {A : Nat → Prop} {bd : Nat → Nat} {τ : kS} {H : Heap} {i : Nat} {y : Int32} (hAb : ∀ q, A q → kHi ε q) (hm : kM ε A bd τ H) (hB : mB τ) (hi : i < τ 32 0) (h : y < 1 ∨ ¬ y ≤ 6) : kMi ε l yX5_setQuorum wsX5_setQuorum ({ frames := 6, cells := 0, slots := 0, locals := 140 }) [.ref (bd 0), .int (nI i), .int y] H A (0) (0) (fun v9 H' => v9 = 0 ∧ kM ε A bd (mT τ 2) H') := by
  refine kof (cc := cX5_setQuorum) (maxL := 4) (ret := (some .int)) (by decide) rfl (Nat.le_of_ble_eq_true rfl) ?_
  intro p e s m below meth c ls S hr hlocks hin hH hE hl
  have S : CallFix p m c cX5_setQuorum 4 s _ wsX5_setQuorum RX5 := S
  have hx := S.1
  have hb := S.2.1
  have hown : s.vm.findClass RX5 = some m.cls := S.2.2.2.1
  have hts := S.2.2.2.2
  have hK := hE.1
  have hS : va_S A s.heap H [] := by rw [hH]; exact va_S.rf
  have hl : lv_has ls 4 [(0, .ref (bd 0)), (1, .int (nI i)), (2, .int y)] := hl
  have hnR := hB.nR
  have hnC := hB.nC
  have hnW := hB.nW
  have hnA := hB.nA
  have hmn := hB.min
  refine lv_aload_n hx hb dX5_setQuorum_0 rfl (lv_at hl 0 rfl) ?_
  refine lv_aload_n hx hb dX5_setQuorum_1 rfl (lv_at hl 0 rfl) ?_
  refine lv_iload_n hx hb dX5_setQuorum_2 rfl (lv_at hl 1 rfl) ?_
  refine kgo_pi (v := 1) (kc_V (As := [.int (nI i)]) (rest := [.ref (bd 0)]) S hE hS hAb (cm_isCheckT ε l hm hB hi) (cwV 1 hts gX5_setQuorum_X5_isCheck rfl rfl rfl (by decide +kernel) ⟨Nat.le_of_ble_eq_true rfl, Nat.le_of_ble_eq_true rfl⟩) (hm.lv 0 (by decide)) rfl rfl hl.1 rfl (Nat.le_of_ble_eq_true rfl) dX5_setQuorum_3 ⟨Nat.zero_le _, Nat.zero_le _⟩) hS (fun locs hS => ?_)
  refine lv_if_ne (tgt := 13) hx hb dX5_setQuorum_6 (by decide) (fun _ => ?_) (fun hc => absurd hc (by decide))
  refine lv_iload_n hx hb dX5_setQuorum_13 rfl (lv_at hl 2 rfl) ?_
  refine lv_iconst (v := 1) hx hb dX5_setQuorum_14 (by decide) ?_
  refine lv_bipush (v := 6) hx hb dX5_setQuorum_15 (by decide) ?_
  refine kgo_pi (v := 0) (kc_S (As := [.int y, .int 1, .int 6]) (rest := [.ref (bd 0)]) S hE hS hAb (cm_isInF ε l h) (va_cwS 3 hts gX5_setQuorum_X5_isIn rfl rfl rfl (by decide +kernel) ⟨Nat.le_of_ble_eq_true rfl, Nat.le_of_ble_eq_true rfl⟩) rfl hl.1 rfl (Nat.le_of_ble_eq_true rfl) dX5_setQuorum_17 ⟨Nat.zero_le _, Nat.zero_le _⟩) hS (fun locs hS => ?_)
  refine lv_if_eq (tgt := 27) hx hb dX5_setQuorum_20 (by decide) (fun _ => ?_) (fun hc => absurd (by decide) hc)
  refine lv_iconst (v := 2) hx hb dX5_setQuorum_27 (by decide) ?_
  refine kr_top (y := nI 2) (rfl) ?_
  refine kr_put (T := TX5) (N := 28) (v := .int (nI 2)) (ty := .int) hx hb hts hown hK hS (hm.lv 0 (by decide)) (hm.1 0 (by decide)).2 rfl kin_X5_setQuorum_X5 tyX5 tyX5_ok nmX5 27 (by decide) "ProbewebModel" (hts (.fieldLink RX5 78 "ProbewebModel" "thrown" "I") (by decide +kernel)) (fun _ h => h) rfl (by decide +kernel) rfl rfl (Nat.le_of_ble_eq_true rfl) dX5_setQuorum_28 (fun H1 locs hU ho hS => ?_)
  have hm := km_p35 (v := 2) hm hU ho
  clear hU ho
  have hB : mB (mT τ 2) := hB
  refine lv_aload_n hx hb dX5_setQuorum_31 rfl (lv_at hl 0 rfl) ?_
  refine kr_get (T := TX5) (N := 28) hx hb hts hown hK (hm.lv 0 (by decide)) rfl kin_X5_setQuorum_X5 27 (by decide) (by decide +kernel) rfl dX5_setQuorum_32 ?_
  refine kr_top (y := 2) (rfl) ?_
  refine lv_if_le (tgt := 40) hx hb dX5_setQuorum_35 (by decide) (fun hc => absurd hc (by decide)) (fun _ => ?_)
  refine lv_iconst (v := 0) hx hb dX5_setQuorum_38 (by decide) ?_
  refine kend_i S hr hlocks hS ⟨rfl, hm⟩ dX5_setQuorum_39
theorem kin_X5_isAlarm_X5 : ∀ w ∈ wsX50, w ∈ wsX5_isAlarm := by decide +kernel
set_option maxHeartbeats 4000000 in
set_option maxRecDepth 100000 in
theorem cm_isAlarm (ε : kEnv) (l : Launch) {A : Nat → Prop} {bd : Nat → Nat} {τ : kS} {H : Heap} {i : Nat} (hAb : ∀ q, A q → kHi ε q) (hm : kM ε A bd τ H) (hB : mB τ) (hi : i < τ 34 0) : kMi ε l yX5_isAlarm wsX5_isAlarm ({ frames := 3, cells := 0, slots := 0, locals := 70 }) [.ref (bd 0), .int (nI i)] H A (0) (0) (fun v9 H' => v9 = 1 ∧ kM ε A bd (mT τ 0) H') := by
  refine kof (cc := cX5_isAlarm) (maxL := 2) (ret := (some .boolean)) (by decide) rfl (Nat.le_of_ble_eq_true rfl) ?_
  intro p e s m below meth c ls S hr hlocks hin hH hE hl
  have S : CallFix p m c cX5_isAlarm 2 s _ wsX5_isAlarm RX5 := S
  have hx := S.1
  have hb := S.2.1
  have hown : s.vm.findClass RX5 = some m.cls := S.2.2.2.1
  have hts := S.2.2.2.2
  have hK := hE.1
  have hS : va_S A s.heap H [] := by rw [hH]; exact va_S.rf
  have hl : lv_has ls 2 [(0, .ref (bd 0)), (1, .int (nI i))] := hl
  have hnR := hB.nR
  have hnC := hB.nC
  have hnW := hB.nW
  have hnA := hB.nA
  have hmn := hB.min
  refine lv_aload_n hx hb dX5_isAlarm_0 rfl (lv_at hl 0 rfl) ?_
  refine lv_iload_n hx hb dX5_isAlarm_1 rfl (lv_at hl 1 rfl) ?_
  refine lv_iconst (v := 0) hx hb dX5_isAlarm_2 (by decide) ?_
  refine lv_aload_n hx hb dX5_isAlarm_3 rfl (lv_at hl 0 rfl) ?_
  refine kr_get (T := TX5) (N := 28) hx hb hts hown hK (hm.lv 0 (by decide)) rfl kin_X5_isAlarm_X5 24 (by decide) (by decide +kernel) rfl dX5_isAlarm_4 ?_
  refine lv_iconst (v := 1) hx hb dX5_isAlarm_7 (by decide) ?_
  refine lv_isub hx hb dX5_isAlarm_8 ?_
  refine kgo_pi (v := 1) (kc_S (As := [.int (nI i), .int 0, .int ((nI (τ 34 0) - 1))]) (rest := [.ref (bd 0)]) S hE hS hAb (cm_isInT ε l (nI_pos (by omega)) (nI_top (by omega) hi)) (va_cwS 3 hts gX5_isAlarm_X5_isIn rfl rfl rfl (by decide +kernel) ⟨Nat.le_of_ble_eq_true rfl, Nat.le_of_ble_eq_true rfl⟩) rfl hl.1 rfl (Nat.le_of_ble_eq_true rfl) dX5_isAlarm_9 ⟨Nat.zero_le _, Nat.zero_le _⟩) hS (fun locs hS => ?_)
  refine lv_if_eq (tgt := 19) hx hb dX5_isAlarm_12 (by decide) (fun hc => absurd hc (by decide)) (fun _ => ?_)
  refine lv_iconst (v := 0) hx hb dX5_isAlarm_15 (by decide) ?_
  refine lv_goto (tgt := 20) hx hb dX5_isAlarm_16 (by decide) ?_
  refine kr_top (y := nI 0) (rfl) ?_
  refine kr_put (T := TX5) (N := 28) (v := .int (nI 0)) (ty := .int) hx hb hts hown hK hS (hm.lv 0 (by decide)) (hm.1 0 (by decide)).2 rfl kin_X5_isAlarm_X5 tyX5 tyX5_ok nmX5 27 (by decide) "ProbewebModel" (hts (.fieldLink RX5 78 "ProbewebModel" "thrown" "I") (by decide +kernel)) (fun _ h => h) rfl (by decide +kernel) rfl rfl (Nat.le_of_ble_eq_true rfl) dX5_isAlarm_20 (fun H1 locs hU ho hS => ?_)
  have hm := km_p35 (v := 0) hm hU ho
  clear hU ho
  have hB : mB (mT τ 0) := hB
  refine lv_aload_n hx hb dX5_isAlarm_23 rfl (lv_at hl 0 rfl) ?_
  refine kr_get (T := TX5) (N := 28) hx hb hts hown hK (hm.lv 0 (by decide)) rfl kin_X5_isAlarm_X5 27 (by decide) (by decide +kernel) rfl dX5_isAlarm_24 ?_
  refine kr_top (y := 0) (rfl) ?_
  refine lv_if_ne (tgt := 34) hx hb dX5_isAlarm_27 (by decide) (fun hc => absurd (by decide) hc) (fun _ => ?_)
  refine lv_iconst (v := 1) hx hb dX5_isAlarm_30 (by decide) ?_
  refine lv_goto (tgt := 35) hx hb dX5_isAlarm_31 (by decide) ?_
  refine kend_z S hr hlocks hS ⟨rfl, hm⟩ (Or.inr rfl) dX5_isAlarm_35
set_option maxHeartbeats 4000000 in
set_option maxRecDepth 100000 in
theorem cm_isAlarmX (ε : kEnv) (l : Launch) {A : Nat → Prop} {bd : Nat → Nat} {τ : kS} {H : Heap} {x : Int32} (hAb : ∀ q, A q → kHi ε q) (hm : kM ε A bd τ H) (hB : mB τ) (h : x < 0 ∨ nI (τ 34 0) ≤ x) : kMi ε l yX5_isAlarm wsX5_isAlarm ({ frames := 3, cells := 0, slots := 0, locals := 70 }) [.ref (bd 0), .int x] H A (0) (0) (fun v9 H' => v9 = 0 ∧ kM ε A bd (mT τ 1) H') := by
  refine kof (cc := cX5_isAlarm) (maxL := 2) (ret := (some .boolean)) (by decide) rfl (Nat.le_of_ble_eq_true rfl) ?_
  intro p e s m below meth c ls S hr hlocks hin hH hE hl
  have S : CallFix p m c cX5_isAlarm 2 s _ wsX5_isAlarm RX5 := S
  have hx := S.1
  have hb := S.2.1
  have hown : s.vm.findClass RX5 = some m.cls := S.2.2.2.1
  have hts := S.2.2.2.2
  have hK := hE.1
  have hS : va_S A s.heap H [] := by rw [hH]; exact va_S.rf
  have hl : lv_has ls 2 [(0, .ref (bd 0)), (1, .int x)] := hl
  have hnR := hB.nR
  have hnC := hB.nC
  have hnW := hB.nW
  have hnA := hB.nA
  have hmn := hB.min
  refine lv_aload_n hx hb dX5_isAlarm_0 rfl (lv_at hl 0 rfl) ?_
  refine lv_iload_n hx hb dX5_isAlarm_1 rfl (lv_at hl 1 rfl) ?_
  refine lv_iconst (v := 0) hx hb dX5_isAlarm_2 (by decide) ?_
  refine lv_aload_n hx hb dX5_isAlarm_3 rfl (lv_at hl 0 rfl) ?_
  refine kr_get (T := TX5) (N := 28) hx hb hts hown hK (hm.lv 0 (by decide)) rfl kin_X5_isAlarm_X5 24 (by decide) (by decide +kernel) rfl dX5_isAlarm_4 ?_
  refine lv_iconst (v := 1) hx hb dX5_isAlarm_7 (by decide) ?_
  refine lv_isub hx hb dX5_isAlarm_8 ?_
  refine kgo_pi (v := 0) (kc_S (As := [.int x, .int 0, .int ((nI (τ 34 0) - 1))]) (rest := [.ref (bd 0)]) S hE hS hAb (cm_isInF ε l (nI_out (by omega) h)) (va_cwS 3 hts gX5_isAlarm_X5_isIn rfl rfl rfl (by decide +kernel) ⟨Nat.le_of_ble_eq_true rfl, Nat.le_of_ble_eq_true rfl⟩) rfl hl.1 rfl (Nat.le_of_ble_eq_true rfl) dX5_isAlarm_9 ⟨Nat.zero_le _, Nat.zero_le _⟩) hS (fun locs hS => ?_)
  refine lv_if_eq (tgt := 19) hx hb dX5_isAlarm_12 (by decide) (fun _ => ?_) (fun hc => absurd (by decide) hc)
  refine lv_iconst (v := 1) hx hb dX5_isAlarm_19 (by decide) ?_
  refine kr_top (y := nI 1) (rfl) ?_
  refine kr_put (T := TX5) (N := 28) (v := .int (nI 1)) (ty := .int) hx hb hts hown hK hS (hm.lv 0 (by decide)) (hm.1 0 (by decide)).2 rfl kin_X5_isAlarm_X5 tyX5 tyX5_ok nmX5 27 (by decide) "ProbewebModel" (hts (.fieldLink RX5 78 "ProbewebModel" "thrown" "I") (by decide +kernel)) (fun _ h => h) rfl (by decide +kernel) rfl rfl (Nat.le_of_ble_eq_true rfl) dX5_isAlarm_20 (fun H1 locs hU ho hS => ?_)
  have hm := km_p35 (v := 1) hm hU ho
  clear hU ho
  have hB : mB (mT τ 1) := hB
  refine lv_aload_n hx hb dX5_isAlarm_23 rfl (lv_at hl 0 rfl) ?_
  refine kr_get (T := TX5) (N := 28) hx hb hts hown hK (hm.lv 0 (by decide)) rfl kin_X5_isAlarm_X5 27 (by decide) (by decide +kernel) rfl dX5_isAlarm_24 ?_
  refine kr_top (y := 1) (rfl) ?_
  refine lv_if_ne (tgt := 34) hx hb dX5_isAlarm_27 (by decide) (fun _ => ?_) (fun hc => absurd hc (by decide))
  refine lv_iconst (v := 0) hx hb dX5_isAlarm_34 (by decide) ?_
  refine kend_z S hr hlocks hS ⟨rfl, hm⟩ (Or.inl rfl) dX5_isAlarm_35
theorem kin_X5_alarmCheck_X5 : ∀ w ∈ wsX50, w ∈ wsX5_alarmCheck := by decide +kernel
set_option maxHeartbeats 4000000 in
set_option maxRecDepth 100000 in
theorem cm_alarmCheck (ε : kEnv) (l : Launch) {A : Nat → Prop} {bd : Nat → Nat} {τ : kS} {H : Heap} {i : Nat} (hAb : ∀ q, A q → kHi ε q) (hm : kM ε A bd τ H) (hB : mB τ) (hi : i < τ 34 0) : kMi ε l yX5_alarmCheck wsX5_alarmCheck ({ frames := 6, cells := 0, slots := 0, locals := 140 }) [.ref (bd 0), .int (nI i)] H A (0) (0) (fun v9 H' => v9 = nI (τ 21 i % 8) ∧ kM ε A bd (mT τ 0) H') := by
  refine kof (cc := cX5_alarmCheck) (maxL := 2) (ret := (some .int)) (by decide) rfl (Nat.le_of_ble_eq_true rfl) ?_
  intro p e s m below meth c ls S hr hlocks hin hH hE hl
  have S : CallFix p m c cX5_alarmCheck 2 s _ wsX5_alarmCheck RX5 := S
  have hx := S.1
  have hb := S.2.1
  have hown : s.vm.findClass RX5 = some m.cls := S.2.2.2.1
  have hts := S.2.2.2.2
  have hK := hE.1
  have hS : va_S A s.heap H [] := by rw [hH]; exact va_S.rf
  have hl : lv_has ls 2 [(0, .ref (bd 0)), (1, .int (nI i))] := hl
  have hnR := hB.nR
  have hnC := hB.nC
  have hnW := hB.nW
  have hnA := hB.nA
  have hmn := hB.min
  have hal := hB.al i hi
  refine lv_aload_n hx hb dX5_alarmCheck_0 rfl (lv_at hl 0 rfl) ?_
  refine lv_iload_n hx hb dX5_alarmCheck_1 rfl (lv_at hl 1 rfl) ?_
  refine kgo_i (kc_V (As := [.int (nI i)]) (rest := []) S hE hS hAb (cm_isAlarm ε l hAb hm hB hi) (cwV 1 hts gX5_alarmCheck_X5_isAlarm rfl rfl rfl (by decide +kernel) ⟨Nat.le_of_ble_eq_true rfl, Nat.le_of_ble_eq_true rfl⟩) (hm.lv 0 (by decide)) rfl rfl hl.1 rfl (Nat.le_of_ble_eq_true rfl) dX5_alarmCheck_2 ⟨Nat.zero_le _, Nat.zero_le _⟩) hS (fun _ h => h) (fun v9 H1 locs hp hz hq hS => ?_)
  obtain ⟨rfl, hm⟩ := hp
  have hB : mB (mT τ 0) := hB
  refine lv_if_eq (tgt := 20) hx hb dX5_alarmCheck_5 (by decide) (fun hc => absurd hc (by decide)) (fun _ => ?_)
  refine lv_aload_n hx hb dX5_alarmCheck_8 rfl (lv_at hl 0 rfl) ?_
  refine kr_get (T := TX5) (N := 28) hx hb hts hown hK (hm.lv 0 (by decide)) rfl kin_X5_alarmCheck_X5 25 (by decide) (by decide +kernel) rfl dX5_alarmCheck_9 ?_
  refine lv_iload_n hx hb dX5_alarmCheck_12 rfl (lv_at hl 1 rfl) ?_
  refine kr_ild hx hb hK (hm.lv 21 (by decide)) (j := i) ((show i < 60000 by omega)) (nI_clamp (ks31 ((show i < 60000 by omega)))) (nI_pos (ks31 ((show i < 60000 by omega)))) (x := nI ((mT τ 0) 21 i)) rfl dX5_alarmCheck_13 ?_
  refine kr_top (y := nI (τ 21 i)) (rfl) ?_
  refine lv_bipush (v := 8) hx hb dX5_alarmCheck_14 (by decide) ?_
  refine lv_irem hx hb dX5_alarmCheck_16 (by decide) ?_
  refine kr_top (y := nI (τ 21 i % 8)) (pk_rem (d := 8) (by omega) (by decide) (by decide)) ?_
  refine lv_goto (tgt := 21) hx hb dX5_alarmCheck_17 (by decide) ?_
  refine kend_i S hr hlocks hS ⟨rfl, hm⟩ dX5_alarmCheck_21
set_option maxHeartbeats 4000000 in
set_option maxRecDepth 100000 in
theorem cm_alarmCheckX (ε : kEnv) (l : Launch) {A : Nat → Prop} {bd : Nat → Nat} {τ : kS} {H : Heap} {x : Int32} (hAb : ∀ q, A q → kHi ε q) (hm : kM ε A bd τ H) (hB : mB τ) (h : x < 0 ∨ nI (τ 34 0) ≤ x) : kMi ε l yX5_alarmCheck wsX5_alarmCheck ({ frames := 6, cells := 0, slots := 0, locals := 140 }) [.ref (bd 0), .int x] H A (0) (0) (fun v9 H' => v9 = 0 ∧ kM ε A bd (mT τ 1) H') := by
  refine kof (cc := cX5_alarmCheck) (maxL := 2) (ret := (some .int)) (by decide) rfl (Nat.le_of_ble_eq_true rfl) ?_
  intro p e s m below meth c ls S hr hlocks hin hH hE hl
  have S : CallFix p m c cX5_alarmCheck 2 s _ wsX5_alarmCheck RX5 := S
  have hx := S.1
  have hb := S.2.1
  have hown : s.vm.findClass RX5 = some m.cls := S.2.2.2.1
  have hts := S.2.2.2.2
  have hK := hE.1
  have hS : va_S A s.heap H [] := by rw [hH]; exact va_S.rf
  have hl : lv_has ls 2 [(0, .ref (bd 0)), (1, .int x)] := hl
  have hnR := hB.nR
  have hnC := hB.nC
  have hnW := hB.nW
  have hnA := hB.nA
  have hmn := hB.min
  refine lv_aload_n hx hb dX5_alarmCheck_0 rfl (lv_at hl 0 rfl) ?_
  refine lv_iload_n hx hb dX5_alarmCheck_1 rfl (lv_at hl 1 rfl) ?_
  refine kgo_i (kc_V (As := [.int x]) (rest := []) S hE hS hAb (cm_isAlarmX ε l hAb hm hB h) (cwV 1 hts gX5_alarmCheck_X5_isAlarm rfl rfl rfl (by decide +kernel) ⟨Nat.le_of_ble_eq_true rfl, Nat.le_of_ble_eq_true rfl⟩) (hm.lv 0 (by decide)) rfl rfl hl.1 rfl (Nat.le_of_ble_eq_true rfl) dX5_alarmCheck_2 ⟨Nat.zero_le _, Nat.zero_le _⟩) hS (fun _ h => h) (fun v9 H1 locs hp hz hq hS => ?_)
  obtain ⟨rfl, hm⟩ := hp
  have hB : mB (mT τ 1) := hB
  refine lv_if_eq (tgt := 20) hx hb dX5_alarmCheck_5 (by decide) (fun _ => ?_) (fun hc => absurd (by decide) hc)
  refine lv_iconst (v := 0) hx hb dX5_alarmCheck_20 (by decide) ?_
  refine kend_i S hr hlocks hS ⟨rfl, hm⟩ dX5_alarmCheck_21
theorem kin_X5_alarmRaised_X5 : ∀ w ∈ wsX50, w ∈ wsX5_alarmRaised := by decide +kernel
set_option maxHeartbeats 4000000 in
set_option maxRecDepth 100000 in
theorem cm_alarmRaised (ε : kEnv) (l : Launch) {A : Nat → Prop} {bd : Nat → Nat} {τ : kS} {H : Heap} {i : Nat} (hAb : ∀ q, A q → kHi ε q) (hm : kM ε A bd τ H) (hB : mB τ) (hi : i < τ 34 0) : kMi ε l yX5_alarmRaised wsX5_alarmRaised ({ frames := 6, cells := 0, slots := 0, locals := 140 }) [.ref (bd 0), .int (nI i)] H A (0) (0) (fun v9 H' => v9 = nI (τ 21 i / 8) ∧ kM ε A bd (mT τ 0) H') := by
  refine kof (cc := cX5_alarmRaised) (maxL := 2) (ret := (some .int)) (by decide) rfl (Nat.le_of_ble_eq_true rfl) ?_
  intro p e s m below meth c ls S hr hlocks hin hH hE hl
  have S : CallFix p m c cX5_alarmRaised 2 s _ wsX5_alarmRaised RX5 := S
  have hx := S.1
  have hb := S.2.1
  have hown : s.vm.findClass RX5 = some m.cls := S.2.2.2.1
  have hts := S.2.2.2.2
  have hK := hE.1
  have hS : va_S A s.heap H [] := by rw [hH]; exact va_S.rf
  have hl : lv_has ls 2 [(0, .ref (bd 0)), (1, .int (nI i))] := hl
  have hnR := hB.nR
  have hnC := hB.nC
  have hnW := hB.nW
  have hnA := hB.nA
  have hmn := hB.min
  have hal := hB.al i hi
  refine lv_aload_n hx hb dX5_alarmRaised_0 rfl (lv_at hl 0 rfl) ?_
  refine lv_iload_n hx hb dX5_alarmRaised_1 rfl (lv_at hl 1 rfl) ?_
  refine kgo_i (kc_V (As := [.int (nI i)]) (rest := []) S hE hS hAb (cm_isAlarm ε l hAb hm hB hi) (cwV 1 hts gX5_alarmRaised_X5_isAlarm rfl rfl rfl (by decide +kernel) ⟨Nat.le_of_ble_eq_true rfl, Nat.le_of_ble_eq_true rfl⟩) (hm.lv 0 (by decide)) rfl rfl hl.1 rfl (Nat.le_of_ble_eq_true rfl) dX5_alarmRaised_2 ⟨Nat.zero_le _, Nat.zero_le _⟩) hS (fun _ h => h) (fun v9 H1 locs hp hz hq hS => ?_)
  obtain ⟨rfl, hm⟩ := hp
  have hB : mB (mT τ 0) := hB
  refine lv_if_eq (tgt := 20) hx hb dX5_alarmRaised_5 (by decide) (fun hc => absurd hc (by decide)) (fun _ => ?_)
  refine lv_aload_n hx hb dX5_alarmRaised_8 rfl (lv_at hl 0 rfl) ?_
  refine kr_get (T := TX5) (N := 28) hx hb hts hown hK (hm.lv 0 (by decide)) rfl kin_X5_alarmRaised_X5 25 (by decide) (by decide +kernel) rfl dX5_alarmRaised_9 ?_
  refine lv_iload_n hx hb dX5_alarmRaised_12 rfl (lv_at hl 1 rfl) ?_
  refine kr_ild hx hb hK (hm.lv 21 (by decide)) (j := i) ((show i < 60000 by omega)) (nI_clamp (ks31 ((show i < 60000 by omega)))) (nI_pos (ks31 ((show i < 60000 by omega)))) (x := nI ((mT τ 0) 21 i)) rfl dX5_alarmRaised_13 ?_
  refine kr_top (y := nI (τ 21 i)) (rfl) ?_
  refine lv_bipush (v := 8) hx hb dX5_alarmRaised_14 (by decide) ?_
  refine lv_idiv hx hb dX5_alarmRaised_16 (by decide) ?_
  refine kr_top (y := nI (τ 21 i / 8)) (pk_div (d := 8) (by omega) (by decide) (by decide)) ?_
  refine lv_goto (tgt := 21) hx hb dX5_alarmRaised_17 (by decide) ?_
  refine kend_i S hr hlocks hS ⟨rfl, hm⟩ dX5_alarmRaised_21
set_option maxHeartbeats 4000000 in
set_option maxRecDepth 100000 in
theorem cm_alarmRaisedX (ε : kEnv) (l : Launch) {A : Nat → Prop} {bd : Nat → Nat} {τ : kS} {H : Heap} {x : Int32} (hAb : ∀ q, A q → kHi ε q) (hm : kM ε A bd τ H) (hB : mB τ) (h : x < 0 ∨ nI (τ 34 0) ≤ x) : kMi ε l yX5_alarmRaised wsX5_alarmRaised ({ frames := 6, cells := 0, slots := 0, locals := 140 }) [.ref (bd 0), .int x] H A (0) (0) (fun v9 H' => v9 = 0 ∧ kM ε A bd (mT τ 1) H') := by
  refine kof (cc := cX5_alarmRaised) (maxL := 2) (ret := (some .int)) (by decide) rfl (Nat.le_of_ble_eq_true rfl) ?_
  intro p e s m below meth c ls S hr hlocks hin hH hE hl
  have S : CallFix p m c cX5_alarmRaised 2 s _ wsX5_alarmRaised RX5 := S
  have hx := S.1
  have hb := S.2.1
  have hown : s.vm.findClass RX5 = some m.cls := S.2.2.2.1
  have hts := S.2.2.2.2
  have hK := hE.1
  have hS : va_S A s.heap H [] := by rw [hH]; exact va_S.rf
  have hl : lv_has ls 2 [(0, .ref (bd 0)), (1, .int x)] := hl
  have hnR := hB.nR
  have hnC := hB.nC
  have hnW := hB.nW
  have hnA := hB.nA
  have hmn := hB.min
  refine lv_aload_n hx hb dX5_alarmRaised_0 rfl (lv_at hl 0 rfl) ?_
  refine lv_iload_n hx hb dX5_alarmRaised_1 rfl (lv_at hl 1 rfl) ?_
  refine kgo_i (kc_V (As := [.int x]) (rest := []) S hE hS hAb (cm_isAlarmX ε l hAb hm hB h) (cwV 1 hts gX5_alarmRaised_X5_isAlarm rfl rfl rfl (by decide +kernel) ⟨Nat.le_of_ble_eq_true rfl, Nat.le_of_ble_eq_true rfl⟩) (hm.lv 0 (by decide)) rfl rfl hl.1 rfl (Nat.le_of_ble_eq_true rfl) dX5_alarmRaised_2 ⟨Nat.zero_le _, Nat.zero_le _⟩) hS (fun _ h => h) (fun v9 H1 locs hp hz hq hS => ?_)
  obtain ⟨rfl, hm⟩ := hp
  have hB : mB (mT τ 1) := hB
  refine lv_if_eq (tgt := 20) hx hb dX5_alarmRaised_5 (by decide) (fun _ => ?_) (fun hc => absurd (by decide) hc)
  refine lv_iconst (v := 0) hx hb dX5_alarmRaised_20 (by decide) ?_
  refine kend_i S hr hlocks hS ⟨rfl, hm⟩ dX5_alarmRaised_21
theorem kin_X5_alarmClosed_X5 : ∀ w ∈ wsX50, w ∈ wsX5_alarmClosed := by decide +kernel
set_option maxHeartbeats 4000000 in
set_option maxRecDepth 100000 in
theorem cm_alarmClosed (ε : kEnv) (l : Launch) {A : Nat → Prop} {bd : Nat → Nat} {τ : kS} {H : Heap} {i : Nat} (hAb : ∀ q, A q → kHi ε q) (hm : kM ε A bd τ H) (hB : mB τ) (hi : i < τ 34 0) : kMi ε l yX5_alarmClosed wsX5_alarmClosed ({ frames := 6, cells := 0, slots := 0, locals := 140 }) [.ref (bd 0), .int (nI i)] H A (0) (0) (fun v9 H' => v9 = mI (τ 22 i) ∧ kM ε A bd (mT τ 0) H') := by
  refine kof (cc := cX5_alarmClosed) (maxL := 2) (ret := (some .int)) (by decide) rfl (Nat.le_of_ble_eq_true rfl) ?_
  intro p e s m below meth c ls S hr hlocks hin hH hE hl
  have S : CallFix p m c cX5_alarmClosed 2 s _ wsX5_alarmClosed RX5 := S
  have hx := S.1
  have hb := S.2.1
  have hown : s.vm.findClass RX5 = some m.cls := S.2.2.2.1
  have hts := S.2.2.2.2
  have hK := hE.1
  have hS : va_S A s.heap H [] := by rw [hH]; exact va_S.rf
  have hl : lv_has ls 2 [(0, .ref (bd 0)), (1, .int (nI i))] := hl
  have hnR := hB.nR
  have hnC := hB.nC
  have hnW := hB.nW
  have hnA := hB.nA
  have hmn := hB.min
  have hal := hB.al i hi
  refine lv_aload_n hx hb dX5_alarmClosed_0 rfl (lv_at hl 0 rfl) ?_
  refine lv_iload_n hx hb dX5_alarmClosed_1 rfl (lv_at hl 1 rfl) ?_
  refine kgo_i (kc_V (As := [.int (nI i)]) (rest := []) S hE hS hAb (cm_isAlarm ε l hAb hm hB hi) (cwV 1 hts gX5_alarmClosed_X5_isAlarm rfl rfl rfl (by decide +kernel) ⟨Nat.le_of_ble_eq_true rfl, Nat.le_of_ble_eq_true rfl⟩) (hm.lv 0 (by decide)) rfl rfl hl.1 rfl (Nat.le_of_ble_eq_true rfl) dX5_alarmClosed_2 ⟨Nat.zero_le _, Nat.zero_le _⟩) hS (fun _ h => h) (fun v9 H1 locs hp hz hq hS => ?_)
  obtain ⟨rfl, hm⟩ := hp
  have hB : mB (mT τ 0) := hB
  refine lv_if_eq (tgt := 17) hx hb dX5_alarmClosed_5 (by decide) (fun hc => absurd hc (by decide)) (fun _ => ?_)
  refine lv_aload_n hx hb dX5_alarmClosed_8 rfl (lv_at hl 0 rfl) ?_
  refine kr_get (T := TX5) (N := 28) hx hb hts hown hK (hm.lv 0 (by decide)) rfl kin_X5_alarmClosed_X5 26 (by decide) (by decide +kernel) rfl dX5_alarmClosed_9 ?_
  refine lv_iload_n hx hb dX5_alarmClosed_12 rfl (lv_at hl 1 rfl) ?_
  refine kr_ild hx hb hK (hm.lv 22 (by decide)) (j := i) ((show i < 60000 by omega)) (nI_clamp (ks31 ((show i < 60000 by omega)))) (nI_pos (ks31 ((show i < 60000 by omega)))) (x := mI ((mT τ 0) 22 i)) rfl dX5_alarmClosed_13 ?_
  refine lv_goto (tgt := 18) hx hb dX5_alarmClosed_14 (by decide) ?_
  refine kend_i S hr hlocks hS ⟨rfl, hm⟩ dX5_alarmClosed_18
set_option maxHeartbeats 4000000 in
set_option maxRecDepth 100000 in
theorem cm_alarmClosedX (ε : kEnv) (l : Launch) {A : Nat → Prop} {bd : Nat → Nat} {τ : kS} {H : Heap} {x : Int32} (hAb : ∀ q, A q → kHi ε q) (hm : kM ε A bd τ H) (hB : mB τ) (h : x < 0 ∨ nI (τ 34 0) ≤ x) : kMi ε l yX5_alarmClosed wsX5_alarmClosed ({ frames := 6, cells := 0, slots := 0, locals := 140 }) [.ref (bd 0), .int x] H A (0) (0) (fun v9 H' => v9 = 0 ∧ kM ε A bd (mT τ 1) H') := by
  refine kof (cc := cX5_alarmClosed) (maxL := 2) (ret := (some .int)) (by decide) rfl (Nat.le_of_ble_eq_true rfl) ?_
  intro p e s m below meth c ls S hr hlocks hin hH hE hl
  have S : CallFix p m c cX5_alarmClosed 2 s _ wsX5_alarmClosed RX5 := S
  have hx := S.1
  have hb := S.2.1
  have hown : s.vm.findClass RX5 = some m.cls := S.2.2.2.1
  have hts := S.2.2.2.2
  have hK := hE.1
  have hS : va_S A s.heap H [] := by rw [hH]; exact va_S.rf
  have hl : lv_has ls 2 [(0, .ref (bd 0)), (1, .int x)] := hl
  have hnR := hB.nR
  have hnC := hB.nC
  have hnW := hB.nW
  have hnA := hB.nA
  have hmn := hB.min
  refine lv_aload_n hx hb dX5_alarmClosed_0 rfl (lv_at hl 0 rfl) ?_
  refine lv_iload_n hx hb dX5_alarmClosed_1 rfl (lv_at hl 1 rfl) ?_
  refine kgo_i (kc_V (As := [.int x]) (rest := []) S hE hS hAb (cm_isAlarmX ε l hAb hm hB h) (cwV 1 hts gX5_alarmClosed_X5_isAlarm rfl rfl rfl (by decide +kernel) ⟨Nat.le_of_ble_eq_true rfl, Nat.le_of_ble_eq_true rfl⟩) (hm.lv 0 (by decide)) rfl rfl hl.1 rfl (Nat.le_of_ble_eq_true rfl) dX5_alarmClosed_2 ⟨Nat.zero_le _, Nat.zero_le _⟩) hS (fun _ h => h) (fun v9 H1 locs hp hz hq hS => ?_)
  obtain ⟨rfl, hm⟩ := hp
  have hB : mB (mT τ 1) := hB
  refine lv_if_eq (tgt := 17) hx hb dX5_alarmClosed_5 (by decide) (fun _ => ?_) (fun hc => absurd (by decide) hc)
  refine lv_iconst (v := 0) hx hb dX5_alarmClosed_17 (by decide) ?_
  refine kend_i S hr hlocks hS ⟨rfl, hm⟩ dX5_alarmClosed_18
