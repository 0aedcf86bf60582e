/-! ===== a run by hand: alarm ===== -/
section KRUNA
variable {p : Program} {l : Launch} {e : Env} {s : State} {m : MethodId} {args : Array Value} {below : List Frame} {meth : Method} {c : Code} {H : Heap} {locs : List Loc} {Q : State → Prop} {ls : Array Slot} {ε : kEnv} {ad : Nat → Nat → Nat}
set_option maxHeartbeats 8000000 in
set_option maxRecDepth 100000 in
theorem sgA_0 (S : CallFix p m c cL_alarm 1 s args wsL_alarm RL) (hE : kE ε s) (hst : l.stackTraces = false) (hlo : ε.2.2.1 ≤ s.heap.size) (hw : kW ε (kGe s.heap.size) ad sA_0 H) (hS : va_S (kGe s.heap.size) s.heap H locs) (hl : lv_has ls 1 [(0, .ref (ad 0 0))])
    (KK : ∀ (ad' : Nat → Nat → Nat) (H' : Heap) (locs' : List Loc) (ls' : Array Slot), kW ε (kGe s.heap.size) ad' sA_5 H' → va_S (kGe s.heap.size) s.heap H' locs' → lv_has ls' 1 [(0, .ref (ad' 0 0))] → W p l e ({ frames := 13, cells := 277, slots := 1668, locals := 420 }) s m args below meth c H' locs' 147 887 Q (F0 m 166 ls' [])) : W p l e ({ frames := 13, cells := 277, slots := 1668, locals := 420 }) s m args below meth c H locs 5 19 Q (F0 m 8 ls []) := by
  have hx := S.1
  have hb := S.2.1
  have hown : s.vm.findClass RL = some m.cls := S.2.2.2.1
  have hts := S.2.2.2.2
  have hK := hE.1
  have hAb : ∀ q, kGe s.heap.size q → kHi ε q := fun q h => Nat.le_trans hlo h
  have hA2 : ∀ q, H.size ≤ q → kGe s.heap.size q := fun q h => Nat.le_trans hS.1 h
  refine lv_aload_n hx hb dL_alarm_8 rfl (lv_at hl 0 rfl) ?_
  refine kgo_pi (v := nI (sA_0 0 0)) (kc_V (As := []) (rest := []) S hE hS hAb (cp_minute ε l hw bA_0) (cwV 0 hts gL_alarm_X4_minute rfl rfl rfl (by decide +kernel) ⟨Nat.le_of_ble_eq_true rfl, Nat.le_of_ble_eq_true rfl⟩) (hw.lv 0 0 (rfl : (0 : Nat) = 0)) rfl rfl hl.1 rfl (Nat.le_of_ble_eq_true rfl) dL_alarm_9 ⟨by decide +kernel, by decide +kernel⟩) hS (fun locs hS => ?_)
  refine kr_top (y := 0) (by decide +kernel) ?_
  refine lv_if_ne (tgt := 164) hx hb dL_alarm_12 (by decide) (fun hc => absurd (by decide) hc) (fun _ => ?_)
  refine lv_aload_n hx hb dL_alarm_15 rfl (lv_at hl 0 rfl) ?_
  refine kgo_pi (v := nI (sA_0 4 0)) (kc_V (As := []) (rest := []) S hE hS hAb (cp_alarms ε l hw bA_0) (cwV 0 hts gL_alarm_X4_alarms rfl rfl rfl (by decide +kernel) ⟨Nat.le_of_ble_eq_true rfl, Nat.le_of_ble_eq_true rfl⟩) (hw.lv 0 0 (rfl : (0 : Nat) = 0)) rfl rfl hl.1 rfl (Nat.le_of_ble_eq_true rfl) dL_alarm_16 ⟨by decide +kernel, by decide +kernel⟩) hS (fun locs hS => ?_)
  refine kr_top (y := 0) (by decide +kernel) ?_
  refine lv_if_ne (tgt := 164) hx hb dL_alarm_19 (by decide) (fun hc => absurd (by decide) hc) (fun _ => ?_)
  refine lv_aload_n hx hb dL_alarm_22 rfl (lv_at hl 0 rfl) ?_
  refine lv_iconst (v := -1) hx hb dL_alarm_23 (by decide) ?_
  refine kgo_i (kc_V (As := [.int (-1)]) (rest := []) S hE hS hAb (cp_addRegion0 ε l hAb hw bA_0 (by decide +kernel) zA_0 hA2) (cwV 1 hts gL_alarm_X4_addRegion rfl rfl rfl (by decide +kernel) ⟨Nat.le_of_ble_eq_true rfl, Nat.le_of_ble_eq_true rfl⟩) (hw.lv 0 0 (rfl : (0 : Nat) = 0)) rfl rfl hl.1 rfl (Nat.le_of_ble_eq_true rfl) dL_alarm_24 ⟨by decide +kernel, by decide +kernel⟩) hS (fun _ h => h) (fun r9 H1 locs hp hz1 hq hS => ?_)
  obtain ⟨e9, ad, ea, hw⟩ := hp
  have hl : lv_has ls 1 [(0, .ref (ad 0 0))] := by rw [ea]; exact hl
  clear ea
  have hw : kW ε (kGe s.heap.size) ad sA_1 H1 := hw
  clear hz1 hq
  refine W.widen (k := 7) (n := 33) (by decide +kernel) (by decide +kernel) ?_
  refine kr_top (y := 0) (e9.trans (by decide +kernel)) ?_
  have hA2 : ∀ q, H1.size ≤ q → kGe s.heap.size q := fun q h => Nat.le_trans hS.1 h
  refine lv_if_ne (tgt := 164) hx hb dL_alarm_27 (by decide) (fun hc => absurd (by decide) hc) (fun _ => ?_)
  refine lv_aload_n hx hb dL_alarm_30 rfl (lv_at hl 0 rfl) ?_
  refine lv_iconst (v := -1) hx hb dL_alarm_31 (by decide) ?_
  refine kgo_i (kc_V (As := [.int (-1)]) (rest := []) S hE hS hAb (cp_addRegion0 ε l hAb hw bA_1 (by decide +kernel) zA_1 hA2) (cwV 1 hts gL_alarm_X4_addRegion rfl rfl rfl (by decide +kernel) ⟨Nat.le_of_ble_eq_true rfl, Nat.le_of_ble_eq_true rfl⟩) (hw.lv 0 0 (rfl : (0 : Nat) = 0)) rfl rfl hl.1 rfl (Nat.le_of_ble_eq_true rfl) dL_alarm_32 ⟨by decide +kernel, by decide +kernel⟩) hS (fun _ h => h) (fun r9 H1 locs hp hz1 hq hS => ?_)
  obtain ⟨e9, ad, ea, hw⟩ := hp
  have hl : lv_has ls 1 [(0, .ref (ad 0 0))] := by rw [ea]; exact hl
  clear ea
  have hw : kW ε (kGe s.heap.size) ad sA_2 H1 := hw
  clear hz1 hq
  refine W.widen (k := 8) (n := 37) (by decide +kernel) (by decide +kernel) ?_
  refine kr_top (y := 1) (e9.trans (by decide +kernel)) ?_
  have hA2 : ∀ q, H1.size ≤ q → kGe s.heap.size q := fun q h => Nat.le_trans hS.1 h
  refine lv_iconst (v := 1) hx hb dL_alarm_35 (by decide) ?_
  refine lv_icmp_ne (tgt := 164) hx hb dL_alarm_36 (by decide) (fun hc => absurd (by decide) hc) (fun _ => ?_)
  refine lv_aload_n hx hb dL_alarm_39 rfl (lv_at hl 0 rfl) ?_
  refine lv_iconst (v := 1) hx hb dL_alarm_40 (by decide) ?_
  refine kgo_i (kc_V (As := [.int (nI 1)]) (rest := []) S hE hS hAb (cp_addRegionS ε l hAb hw bA_2 (r := 1) (by decide +kernel) (by decide +kernel) zA_2 hA2) (cwV 1 hts gL_alarm_X4_addRegion rfl rfl rfl (by decide +kernel) ⟨Nat.le_of_ble_eq_true rfl, Nat.le_of_ble_eq_true rfl⟩) (hw.lv 0 0 (rfl : (0 : Nat) = 0)) rfl rfl hl.1 rfl (Nat.le_of_ble_eq_true rfl) dL_alarm_41 ⟨by decide +kernel, by decide +kernel⟩) hS (fun _ h => h) (fun r9 H1 locs hp hz1 hq hS => ?_)
  obtain ⟨e9, ad, ea, hw⟩ := hp
  have hl : lv_has ls 1 [(0, .ref (ad 0 0))] := by rw [ea]; exact hl
  clear ea
  have hw : kW ε (kGe s.heap.size) ad sA_3 H1 := hw
  clear hz1 hq
  refine W.widen (k := 9) (n := 41) (by decide +kernel) (by decide +kernel) ?_
  refine kr_top (y := 2) (e9.trans (by decide +kernel)) ?_
  have hA2 : ∀ q, H1.size ≤ q → kGe s.heap.size q := fun q h => Nat.le_trans hS.1 h
  refine lv_iconst (v := 2) hx hb dL_alarm_44 (by decide) ?_
  refine lv_icmp_ne (tgt := 164) hx hb dL_alarm_45 (by decide) (fun hc => absurd (by decide) hc) (fun _ => ?_)
  refine lv_aload_n hx hb dL_alarm_48 rfl (lv_at hl 0 rfl) ?_
  refine lv_iconst (v := 5) hx hb dL_alarm_49 (by decide) ?_
  refine lv_iconst (v := 0) hx hb dL_alarm_50 (by decide) ?_
  refine lv_iconst (v := 2) hx hb dL_alarm_51 (by decide) ?_
  refine lv_iconst (v := 2) hx hb dL_alarm_52 (by decide) ?_
  refine kgo_i (kc_V (As := [.int (nI 5), .int (nI 0), .int (nI 2), .int (nI 2)]) (rest := []) S hE hS hAb (cp_addCheck ε l hAb hw bA_3 (t1 := 5) (t2 := 0) (t3 := 2) (t4 := 2) (by decide +kernel) (by decide +kernel) (by decide +kernel) (by decide +kernel) (by decide +kernel) (by decide +kernel) (by decide +kernel) zA_3 hA2) (cwV 4 hts gL_alarm_X4_addCheck rfl rfl rfl (by decide +kernel) ⟨Nat.le_of_ble_eq_true rfl, Nat.le_of_ble_eq_true rfl⟩) (hw.lv 0 0 (rfl : (0 : Nat) = 0)) rfl rfl hl.1 rfl (Nat.le_of_ble_eq_true rfl) dL_alarm_53 ⟨by decide +kernel, by decide +kernel⟩) hS (fun _ h => h) (fun r9 H1 locs hp hz1 hq hS => ?_)
  obtain ⟨e9, ad, ea, hw⟩ := hp
  have hl : lv_has ls 1 [(0, .ref (ad 0 0))] := by rw [ea]; exact hl
  clear ea
  have hw : kW ε (kGe s.heap.size) ad sA_4 H1 := hw
  clear hz1 hq
  refine W.widen (k := 14) (n := 82) (by decide +kernel) (by decide +kernel) ?_
  refine kr_top (y := 0) (e9.trans (by decide +kernel)) ?_
  have hA2 : ∀ q, H1.size ≤ q → kGe s.heap.size q := fun q h => Nat.le_trans hS.1 h
  refine lv_if_ne (tgt := 164) hx hb dL_alarm_56 (by decide) (fun hc => absurd (by decide) hc) (fun _ => ?_)
  refine lv_aload_n hx hb dL_alarm_59 rfl (lv_at hl 0 rfl) ?_
  refine lv_iconst (v := 3) hx hb dL_alarm_60 (by decide) ?_
  refine lv_iconst (v := 1) hx hb dL_alarm_61 (by decide) ?_
  refine lv_iconst (v := 0) hx hb dL_alarm_62 (by decide) ?_
  refine lv_iconst (v := 1) hx hb dL_alarm_63 (by decide) ?_
  refine kgo_i (kc_V (As := [.int (nI 3), .int (nI 1), .int (nI 0), .int (nI 1)]) (rest := []) S hE hS hAb (cp_addCheck ε l hAb hw bA_4 (t1 := 3) (t2 := 1) (t3 := 0) (t4 := 1) (by decide +kernel) (by decide +kernel) (by decide +kernel) (by decide +kernel) (by decide +kernel) (by decide +kernel) (by decide +kernel) zA_4 hA2) (cwV 4 hts gL_alarm_X4_addCheck rfl rfl rfl (by decide +kernel) ⟨Nat.le_of_ble_eq_true rfl, Nat.le_of_ble_eq_true rfl⟩) (hw.lv 0 0 (rfl : (0 : Nat) = 0)) rfl rfl hl.1 rfl (Nat.le_of_ble_eq_true rfl) dL_alarm_64 ⟨by decide +kernel, by decide +kernel⟩) hS (fun _ h => h) (fun r9 H1 locs hp hz1 hq hS => ?_)
  obtain ⟨e9, ad, ea, hw⟩ := hp
  have hl : lv_has ls 1 [(0, .ref (ad 0 0))] := by rw [ea]; exact hl
  clear ea
  have hw : kW ε (kGe s.heap.size) ad sA_5 H1 := hw
  clear hz1 hq
  refine W.widen (k := 18) (n := 113) (by decide +kernel) (by decide +kernel) ?_
  refine kr_top (y := 1) (e9.trans (by decide +kernel)) ?_
  have hA2 : ∀ q, H1.size ≤ q → kGe s.heap.size q := fun q h => Nat.le_trans hS.1 h
  refine lv_iconst (v := 1) hx hb dL_alarm_67 (by decide) ?_
  refine lv_icmp_ne (tgt := 164) hx hb dL_alarm_68 (by decide) (fun hc => absurd (by decide) hc) (fun _ => ?_)
  refine lv_aload_n hx hb dL_alarm_71 rfl (lv_at hl 0 rfl) ?_
  refine lv_iconst (v := 0) hx hb dL_alarm_72 (by decide) ?_
  refine lv_iconst (v := 0) hx hb dL_alarm_73 (by decide) ?_
  refine kgo_pi (v := nI (kNext sA_5 0 0 (sA_5 0 0 + 1))) (kc_V (As := [.int (nI 0), .int (nI 0)]) (rest := []) S hE hS hAb (cp_nextProbe ε l hw bA_5 (i := 0) (r := 0) (by decide +kernel) (by decide +kernel)) (cwV 2 hts gL_alarm_X4_nextProbe rfl rfl rfl (by decide +kernel) ⟨Nat.le_of_ble_eq_true rfl, Nat.le_of_ble_eq_true rfl⟩) (hw.lv 0 0 (rfl : (0 : Nat) = 0)) rfl rfl hl.1 rfl (Nat.le_of_ble_eq_true rfl) dL_alarm_74 ⟨by decide +kernel, by decide +kernel⟩) hS (fun locs hS => ?_)
  refine kr_top (y := 5) (by decide +kernel) ?_
  refine lv_iconst (v := 5) hx hb dL_alarm_77 (by decide) ?_
  refine lv_icmp_ne (tgt := 164) hx hb dL_alarm_78 (by decide) (fun hc => absurd (by decide) hc) (fun _ => ?_)
  refine lv_aload_n hx hb dL_alarm_81 rfl (lv_at hl 0 rfl) ?_
  refine lv_iconst (v := 0) hx hb dL_alarm_82 (by decide) ?_
  refine lv_iconst (v := 1) hx hb dL_alarm_83 (by decide) ?_
  refine kgo_pi (v := nI (kNext sA_5 0 1 (sA_5 0 0 + 1))) (kc_V (As := [.int (nI 0), .int (nI 1)]) (rest := []) S hE hS hAb (cp_nextProbe ε l hw bA_5 (i := 0) (r := 1) (by decide +kernel) (by decide +kernel)) (cwV 2 hts gL_alarm_X4_nextProbe rfl rfl rfl (by decide +kernel) ⟨Nat.le_of_ble_eq_true rfl, Nat.le_of_ble_eq_true rfl⟩) (hw.lv 0 0 (rfl : (0 : Nat) = 0)) rfl rfl hl.1 rfl (Nat.le_of_ble_eq_true rfl) dL_alarm_84 ⟨by decide +kernel, by decide +kernel⟩) hS (fun locs hS => ?_)
  refine kr_top (y := 1) (by decide +kernel) ?_
  refine lv_iconst (v := 1) hx hb dL_alarm_87 (by decide) ?_
  refine lv_icmp_ne (tgt := 164) hx hb dL_alarm_88 (by decide) (fun hc => absurd (by decide) hc) (fun _ => ?_)
  refine lv_aload_n hx hb dL_alarm_91 rfl (lv_at hl 0 rfl) ?_
  refine lv_iconst (v := 0) hx hb dL_alarm_92 (by decide) ?_
  refine lv_iconst (v := 2) hx hb dL_alarm_93 (by decide) ?_
  refine kgo_pi (v := nI (kNext sA_5 0 2 (sA_5 0 0 + 1))) (kc_V (As := [.int (nI 0), .int (nI 2)]) (rest := []) S hE hS hAb (cp_nextProbe ε l hw bA_5 (i := 0) (r := 2) (by decide +kernel) (by decide +kernel)) (cwV 2 hts gL_alarm_X4_nextProbe rfl rfl rfl (by decide +kernel) ⟨Nat.le_of_ble_eq_true rfl, Nat.le_of_ble_eq_true rfl⟩) (hw.lv 0 0 (rfl : (0 : Nat) = 0)) rfl rfl hl.1 rfl (Nat.le_of_ble_eq_true rfl) dL_alarm_94 ⟨by decide +kernel, by decide +kernel⟩) hS (fun locs hS => ?_)
  refine kr_top (y := 2) (by decide +kernel) ?_
  refine lv_iconst (v := 2) hx hb dL_alarm_97 (by decide) ?_
  refine lv_icmp_ne (tgt := 164) hx hb dL_alarm_98 (by decide) (fun hc => absurd (by decide) hc) (fun _ => ?_)
  refine lv_aload_n hx hb dL_alarm_101 rfl (lv_at hl 0 rfl) ?_
  refine lv_iconst (v := 1) hx hb dL_alarm_102 (by decide) ?_
  refine lv_iconst (v := 0) hx hb dL_alarm_103 (by decide) ?_
  refine kgo_pi (v := nI (kNext sA_5 1 0 (sA_5 0 0 + 1))) (kc_V (As := [.int (nI 1), .int (nI 0)]) (rest := []) S hE hS hAb (cp_nextProbe ε l hw bA_5 (i := 1) (r := 0) (by decide +kernel) (by decide +kernel)) (cwV 2 hts gL_alarm_X4_nextProbe rfl rfl rfl (by decide +kernel) ⟨Nat.le_of_ble_eq_true rfl, Nat.le_of_ble_eq_true rfl⟩) (hw.lv 0 0 (rfl : (0 : Nat) = 0)) rfl rfl hl.1 rfl (Nat.le_of_ble_eq_true rfl) dL_alarm_104 ⟨by decide +kernel, by decide +kernel⟩) hS (fun locs hS => ?_)
  refine kr_top (y := 1) (by decide +kernel) ?_
  refine lv_iconst (v := 1) hx hb dL_alarm_107 (by decide) ?_
  refine lv_icmp_ne (tgt := 164) hx hb dL_alarm_108 (by decide) (fun hc => absurd (by decide) hc) (fun _ => ?_)
  refine lv_aload_n hx hb dL_alarm_111 rfl (lv_at hl 0 rfl) ?_
  refine lv_iconst (v := 1) hx hb dL_alarm_112 (by decide) ?_
  refine lv_iconst (v := 1) hx hb dL_alarm_113 (by decide) ?_
  refine kgo_pi (v := nI (kNext sA_5 1 1 (sA_5 0 0 + 1))) (kc_V (As := [.int (nI 1), .int (nI 1)]) (rest := []) S hE hS hAb (cp_nextProbe ε l hw bA_5 (i := 1) (r := 1) (by decide +kernel) (by decide +kernel)) (cwV 2 hts gL_alarm_X4_nextProbe rfl rfl rfl (by decide +kernel) ⟨Nat.le_of_ble_eq_true rfl, Nat.le_of_ble_eq_true rfl⟩) (hw.lv 0 0 (rfl : (0 : Nat) = 0)) rfl rfl hl.1 rfl (Nat.le_of_ble_eq_true rfl) dL_alarm_114 ⟨by decide +kernel, by decide +kernel⟩) hS (fun locs hS => ?_)
  refine kr_top (y := 2) (by decide +kernel) ?_
  refine lv_iconst (v := 2) hx hb dL_alarm_117 (by decide) ?_
  refine lv_icmp_ne (tgt := 164) hx hb dL_alarm_118 (by decide) (fun hc => absurd (by decide) hc) (fun _ => ?_)
  refine lv_aload_n hx hb dL_alarm_121 rfl (lv_at hl 0 rfl) ?_
  refine lv_iconst (v := 1) hx hb dL_alarm_122 (by decide) ?_
  refine lv_iconst (v := 2) hx hb dL_alarm_123 (by decide) ?_
  refine kgo_pi (v := nI (kNext sA_5 1 2 (sA_5 0 0 + 1))) (kc_V (As := [.int (nI 1), .int (nI 2)]) (rest := []) S hE hS hAb (cp_nextProbe ε l hw bA_5 (i := 1) (r := 2) (by decide +kernel) (by decide +kernel)) (cwV 2 hts gL_alarm_X4_nextProbe rfl rfl rfl (by decide +kernel) ⟨Nat.le_of_ble_eq_true rfl, Nat.le_of_ble_eq_true rfl⟩) (hw.lv 0 0 (rfl : (0 : Nat) = 0)) rfl rfl hl.1 rfl (Nat.le_of_ble_eq_true rfl) dL_alarm_124 ⟨by decide +kernel, by decide +kernel⟩) hS (fun locs hS => ?_)
  refine kr_top (y := 3) (by decide +kernel) ?_
  refine lv_iconst (v := 3) hx hb dL_alarm_127 (by decide) ?_
  refine lv_icmp_ne (tgt := 164) hx hb dL_alarm_128 (by decide) (fun hc => absurd (by decide) hc) (fun _ => ?_)
  refine lv_aload_n hx hb dL_alarm_131 rfl (lv_at hl 0 rfl) ?_
  refine lv_iconst (v := 0) hx hb dL_alarm_132 (by decide) ?_
  refine kgo_pi (v := nI (sA_5 24 0)) (kc_V (As := [.int (nI 0)]) (rest := []) S hE hS hAb (cp_verdict ε l hw bA_5 (i := 0) (by decide +kernel)) (cwV 1 hts gL_alarm_X4_verdict rfl rfl rfl (by decide +kernel) ⟨Nat.le_of_ble_eq_true rfl, Nat.le_of_ble_eq_true rfl⟩) (hw.lv 0 0 (rfl : (0 : Nat) = 0)) rfl rfl hl.1 rfl (Nat.le_of_ble_eq_true rfl) dL_alarm_133 ⟨by decide +kernel, by decide +kernel⟩) hS (fun locs hS => ?_)
  refine kr_top (y := 0) (by decide +kernel) ?_
  refine lv_if_ne (tgt := 164) hx hb dL_alarm_136 (by decide) (fun hc => absurd (by decide) hc) (fun _ => ?_)
  refine lv_aload_n hx hb dL_alarm_139 rfl (lv_at hl 0 rfl) ?_
  refine lv_bipush (v := 12) hx hb dL_alarm_140 (by decide) ?_
  refine lv_iconst (v := 0) hx hb dL_alarm_142 (by decide) ?_
  refine lv_iconst (v := 0) hx hb dL_alarm_143 (by decide) ?_
  refine lv_iconst (v := 0) hx hb dL_alarm_144 (by decide) ?_
  refine lv_iconst (v := 0) hx hb dL_alarm_145 (by decide) ?_
  refine kgo_i (kc_SW (As := [.ref (ad 0 0), .int 12, .int (nI 0), .int 0, .int 0, .int 0]) (rest := []) S hE hS hAb (ax_availability3 ε l hw (cpx_availability2 ε l hw bA_5 hst (i := 0) (by decide +kernel) (by decide +kernel))) (vx_cwSW 6 hts gL_alarm_L_act rfl rfl rfl (by decide +kernel) ⟨Nat.le_of_ble_eq_true rfl, Nat.le_of_ble_eq_true rfl⟩) rfl hl.1 rfl (Nat.le_of_ble_eq_true rfl) dL_alarm_146 ⟨by decide +kernel, by decide +kernel⟩) hS (fun _ h => h.elim) (fun r9 H1 locs e9 hz1 hq hS => ?_)
  have hw := hw.keep (fun k j hk => hq _ (va_at.lt (hw.1 k j hk).1) (fun h => h))
  clear hz1 hq
  refine W.widen (k := 19) (n := 119) (by decide +kernel) (by decide +kernel) ?_
  refine kr_top e9 ?_
  have hA2 : ∀ q, H1.size ≤ q → kGe s.heap.size q := fun q h => Nat.le_trans hS.1 h
  refine lv_bipush (v := -43) hx hb dL_alarm_149 (by decide) ?_
  refine lv_icmp_ne (tgt := 164) hx hb dL_alarm_151 (by decide) (fun hc => absurd (by decide) hc) (fun _ => ?_)
  refine lv_aload_n hx hb dL_alarm_154 rfl (lv_at hl 0 rfl) ?_
  refine lv_iconst (v := 3) hx hb dL_alarm_155 (by decide) ?_
  refine lv_iconst (v := 2) hx hb dL_alarm_156 (by decide) ?_
  refine lv_iconst (v := 0) hx hb dL_alarm_157 (by decide) ?_
  refine kgo_i (kc_S (As := [.ref (ad 0 0), .int 3, .int 2, .int 0]) (rest := []) S hE hS hAb (cl_refuses2 ε l hst hw bA_5 (by decide +kernel) (by decide +kernel) (by decide +kernel) (by decide +kernel)) (va_cwS 4 hts gL_alarm_L_refuses rfl rfl rfl (by decide +kernel) ⟨Nat.le_of_ble_eq_true rfl, Nat.le_of_ble_eq_true rfl⟩) rfl hl.1 rfl (Nat.le_of_ble_eq_true rfl) dL_alarm_158 ⟨by decide +kernel, by decide +kernel⟩) hS (fun _ h => h.elim) (fun r9 H1 locs e9 hz1 hq hS => ?_)
  have hw := hw.keep (fun k j hk => hq _ (va_at.lt (hw.1 k j hk).1) (fun h => h))
  clear hz1 hq
  refine W.widen (k := 147) (n := 887) (by decide +kernel) (by decide +kernel) ?_
  refine kr_top e9 ?_
  have hA2 : ∀ q, H1.size ≤ q → kGe s.heap.size q := fun q h => Nat.le_trans hS.1 h
  refine lv_if_ne (tgt := 166) hx hb dL_alarm_161 (by decide) (fun _ => ?_) (fun hc => absurd hc (by decide))
  exact KK _ _ _ _ hw hS hl
set_option maxHeartbeats 8000000 in
set_option maxRecDepth 100000 in
theorem sgA_1 (S : CallFix p m c cL_alarm 1 s args wsL_alarm RL) (hE : kE ε s) (hst : l.stackTraces = false) (hlo : ε.2.2.1 ≤ s.heap.size) (hw : kW ε (kGe s.heap.size) ad sA_5 H) (hS : va_S (kGe s.heap.size) s.heap H locs) (hl : lv_has ls 1 [(0, .ref (ad 0 0))])
    (KK : ∀ (ad' : Nat → Nat → Nat) (H' : Heap) (locs' : List Loc) (ls' : Array Slot), kW ε (kGe s.heap.size) ad' sA_9 H' → va_S (kGe s.heap.size) s.heap H' locs' → lv_has ls' 1 [(0, .ref (ad' 0 0))] → W p l e ({ frames := 13, cells := 277, slots := 1668, locals := 420 }) s m args below meth c H' locs' 147 887 Q (F0 m 364 ls' [])) : W p l e ({ frames := 13, cells := 277, slots := 1668, locals := 420 }) s m args below meth c H locs 147 887 Q (F0 m 166 ls []) := by
  have hx := S.1
  have hb := S.2.1
  have hown : s.vm.findClass RL = some m.cls := S.2.2.2.1
  have hts := S.2.2.2.2
  have hK := hE.1
  have hAb : ∀ q, kGe s.heap.size q → kHi ε q := fun q h => Nat.le_trans hlo h
  have hA2 : ∀ q, H.size ≤ q → kGe s.heap.size q := fun q h => Nat.le_trans hS.1 h
  refine lv_aload_n hx hb dL_alarm_166 rfl (lv_at hl 0 rfl) ?_
  refine lv_iconst (v := 3) hx hb dL_alarm_167 (by decide) ?_
  refine kgo_i (kc_V (As := [.int (nI 3)]) (rest := []) S hE hS hAb (cc_pass0 ε l (x0 := ad 0 0) (t := 3) hAb hw bA_5 rfl (by decide +kernel) (by decide +kernel) (by decide +kernel) hA2 (by decide +kernel)) (cwV 1 hts gL_alarm_X4_pass rfl rfl rfl (by decide +kernel) ⟨Nat.le_of_ble_eq_true rfl, Nat.le_of_ble_eq_true rfl⟩) (hw.lv 0 0 (rfl : (0 : Nat) = 0)) rfl rfl hl.1 rfl (Nat.le_of_ble_eq_true rfl) dL_alarm_168 ⟨by decide +kernel, by decide +kernel⟩) hS (fun _ h => h) (fun r9 H1 locs hp hz1 hq hS => ?_)
  obtain ⟨e9, ad, ea, hw⟩ := hp
  have hl : lv_has ls 1 [(0, .ref (ad 0 0))] := by rw [ea]; exact hl
  clear ea
  have hw : kW ε (kGe s.heap.size) ad sA_6 H1 := hw
  clear hz1 hq
  refine W.widen (k := 147) (n := 887) (by decide +kernel) (by decide +kernel) ?_
  refine kr_top (y := 0) (e9.trans (by decide +kernel)) ?_
  have hA2 : ∀ q, H1.size ≤ q → kGe s.heap.size q := fun q h => Nat.le_trans hS.1 h
  refine lv_if_ne (tgt := 362) hx hb dL_alarm_171 (by decide) (fun hc => absurd (by decide) hc) (fun _ => ?_)
  refine lv_aload_n hx hb dL_alarm_174 rfl (lv_at hl 0 rfl) ?_
  refine kgo_pi (v := nI (sA_6 0 0)) (kc_V (As := []) (rest := []) S hE hS hAb (cp_minute ε l hw bA_6) (cwV 0 hts gL_alarm_X4_minute rfl rfl rfl (by decide +kernel) ⟨Nat.le_of_ble_eq_true rfl, Nat.le_of_ble_eq_true rfl⟩) (hw.lv 0 0 (rfl : (0 : Nat) = 0)) rfl rfl hl.1 rfl (Nat.le_of_ble_eq_true rfl) dL_alarm_175 ⟨by decide +kernel, by decide +kernel⟩) hS (fun locs hS => ?_)
  refine kr_top (y := 3) (by decide +kernel) ?_
  refine lv_iconst (v := 3) hx hb dL_alarm_178 (by decide) ?_
  refine lv_icmp_ne (tgt := 362) hx hb dL_alarm_179 (by decide) (fun hc => absurd (by decide) hc) (fun _ => ?_)
  refine lv_aload_n hx hb dL_alarm_182 rfl (lv_at hl 0 rfl) ?_
  refine lv_iconst (v := 0) hx hb dL_alarm_183 (by decide) ?_
  refine lv_iconst (v := 0) hx hb dL_alarm_184 (by decide) ?_
  refine kgo_pi (v := nI (sA_6 31 (6 * 0 + 0))) (kc_V (As := [.int (nI 0), .int (nI 0)]) (rest := []) S hE hS hAb (cp_vote ε l hw bA_6 (i := 0) (r := 0) (by decide +kernel) (by decide +kernel)) (cwV 2 hts gL_alarm_X4_vote rfl rfl rfl (by decide +kernel) ⟨Nat.le_of_ble_eq_true rfl, Nat.le_of_ble_eq_true rfl⟩) (hw.lv 0 0 (rfl : (0 : Nat) = 0)) rfl rfl hl.1 rfl (Nat.le_of_ble_eq_true rfl) dL_alarm_185 ⟨by decide +kernel, by decide +kernel⟩) hS (fun locs hS => ?_)
  refine kr_top (y := 0) (by decide +kernel) ?_
  refine lv_if_ne (tgt := 362) hx hb dL_alarm_188 (by decide) (fun hc => absurd (by decide) hc) (fun _ => ?_)
  refine lv_aload_n hx hb dL_alarm_191 rfl (lv_at hl 0 rfl) ?_
  refine lv_iconst (v := 0) hx hb dL_alarm_192 (by decide) ?_
  refine lv_iconst (v := 1) hx hb dL_alarm_193 (by decide) ?_
  refine kgo_pi (v := nI (sA_6 31 (6 * 0 + 1))) (kc_V (As := [.int (nI 0), .int (nI 1)]) (rest := []) S hE hS hAb (cp_vote ε l hw bA_6 (i := 0) (r := 1) (by decide +kernel) (by decide +kernel)) (cwV 2 hts gL_alarm_X4_vote rfl rfl rfl (by decide +kernel) ⟨Nat.le_of_ble_eq_true rfl, Nat.le_of_ble_eq_true rfl⟩) (hw.lv 0 0 (rfl : (0 : Nat) = 0)) rfl rfl hl.1 rfl (Nat.le_of_ble_eq_true rfl) dL_alarm_194 ⟨by decide +kernel, by decide +kernel⟩) hS (fun locs hS => ?_)
  refine kr_top (y := 1) (by decide +kernel) ?_
  refine lv_iconst (v := 1) hx hb dL_alarm_197 (by decide) ?_
  refine lv_icmp_ne (tgt := 362) hx hb dL_alarm_198 (by decide) (fun hc => absurd (by decide) hc) (fun _ => ?_)
  refine lv_aload_n hx hb dL_alarm_201 rfl (lv_at hl 0 rfl) ?_
  refine lv_iconst (v := 0) hx hb dL_alarm_202 (by decide) ?_
  refine lv_iconst (v := 2) hx hb dL_alarm_203 (by decide) ?_
  refine kgo_pi (v := nI (sA_6 31 (6 * 0 + 2))) (kc_V (As := [.int (nI 0), .int (nI 2)]) (rest := []) S hE hS hAb (cp_vote ε l hw bA_6 (i := 0) (r := 2) (by decide +kernel) (by decide +kernel)) (cwV 2 hts gL_alarm_X4_vote rfl rfl rfl (by decide +kernel) ⟨Nat.le_of_ble_eq_true rfl, Nat.le_of_ble_eq_true rfl⟩) (hw.lv 0 0 (rfl : (0 : Nat) = 0)) rfl rfl hl.1 rfl (Nat.le_of_ble_eq_true rfl) dL_alarm_204 ⟨by decide +kernel, by decide +kernel⟩) hS (fun locs hS => ?_)
  refine kr_top (y := 1) (by decide +kernel) ?_
  refine lv_iconst (v := 1) hx hb dL_alarm_207 (by decide) ?_
  refine lv_icmp_ne (tgt := 362) hx hb dL_alarm_208 (by decide) (fun hc => absurd (by decide) hc) (fun _ => ?_)
  refine lv_aload_n hx hb dL_alarm_211 rfl (lv_at hl 0 rfl) ?_
  refine lv_iconst (v := 1) hx hb dL_alarm_212 (by decide) ?_
  refine lv_iconst (v := 0) hx hb dL_alarm_213 (by decide) ?_
  refine kgo_pi (v := nI (sA_6 31 (6 * 1 + 0))) (kc_V (As := [.int (nI 1), .int (nI 0)]) (rest := []) S hE hS hAb (cp_vote ε l hw bA_6 (i := 1) (r := 0) (by decide +kernel) (by decide +kernel)) (cwV 2 hts gL_alarm_X4_vote rfl rfl rfl (by decide +kernel) ⟨Nat.le_of_ble_eq_true rfl, Nat.le_of_ble_eq_true rfl⟩) (hw.lv 0 0 (rfl : (0 : Nat) = 0)) rfl rfl hl.1 rfl (Nat.le_of_ble_eq_true rfl) dL_alarm_214 ⟨by decide +kernel, by decide +kernel⟩) hS (fun locs hS => ?_)
  refine kr_top (y := 1) (by decide +kernel) ?_
  refine lv_iconst (v := 1) hx hb dL_alarm_217 (by decide) ?_
  refine lv_icmp_ne (tgt := 362) hx hb dL_alarm_218 (by decide) (fun hc => absurd (by decide) hc) (fun _ => ?_)
  refine lv_aload_n hx hb dL_alarm_221 rfl (lv_at hl 0 rfl) ?_
  refine lv_iconst (v := 1) hx hb dL_alarm_222 (by decide) ?_
  refine lv_iconst (v := 2) hx hb dL_alarm_223 (by decide) ?_
  refine kgo_pi (v := nI (sA_6 31 (6 * 1 + 2))) (kc_V (As := [.int (nI 1), .int (nI 2)]) (rest := []) S hE hS hAb (cp_vote ε l hw bA_6 (i := 1) (r := 2) (by decide +kernel) (by decide +kernel)) (cwV 2 hts gL_alarm_X4_vote rfl rfl rfl (by decide +kernel) ⟨Nat.le_of_ble_eq_true rfl, Nat.le_of_ble_eq_true rfl⟩) (hw.lv 0 0 (rfl : (0 : Nat) = 0)) rfl rfl hl.1 rfl (Nat.le_of_ble_eq_true rfl) dL_alarm_224 ⟨by decide +kernel, by decide +kernel⟩) hS (fun locs hS => ?_)
  refine kr_top (y := 1) (by decide +kernel) ?_
  refine lv_iconst (v := 1) hx hb dL_alarm_227 (by decide) ?_
  refine lv_icmp_ne (tgt := 362) hx hb dL_alarm_228 (by decide) (fun hc => absurd (by decide) hc) (fun _ => ?_)
  refine lv_aload_n hx hb dL_alarm_231 rfl (lv_at hl 0 rfl) ?_
  refine lv_iconst (v := 0) hx hb dL_alarm_232 (by decide) ?_
  refine kgo_pi (v := nI (sA_6 12 0)) (kc_V (As := [.int (nI 0)]) (rest := []) S hE hS hAb (cp_probes ε l hw bA_6 (i := 0) (by decide +kernel)) (cwV 1 hts gL_alarm_X4_probes rfl rfl rfl (by decide +kernel) ⟨Nat.le_of_ble_eq_true rfl, Nat.le_of_ble_eq_true rfl⟩) (hw.lv 0 0 (rfl : (0 : Nat) = 0)) rfl rfl hl.1 rfl (Nat.le_of_ble_eq_true rfl) dL_alarm_233 ⟨by decide +kernel, by decide +kernel⟩) hS (fun locs hS => ?_)
  refine kr_top (y := 1) (by decide +kernel) ?_
  refine lv_iconst (v := 1) hx hb dL_alarm_236 (by decide) ?_
  refine lv_icmp_ne (tgt := 362) hx hb dL_alarm_237 (by decide) (fun hc => absurd (by decide) hc) (fun _ => ?_)
  refine lv_aload_n hx hb dL_alarm_240 rfl (lv_at hl 0 rfl) ?_
  refine lv_iconst (v := 1) hx hb dL_alarm_241 (by decide) ?_
  refine kgo_pi (v := nI (sA_6 12 1)) (kc_V (As := [.int (nI 1)]) (rest := []) S hE hS hAb (cp_probes ε l hw bA_6 (i := 1) (by decide +kernel)) (cwV 1 hts gL_alarm_X4_probes rfl rfl rfl (by decide +kernel) ⟨Nat.le_of_ble_eq_true rfl, Nat.le_of_ble_eq_true rfl⟩) (hw.lv 0 0 (rfl : (0 : Nat) = 0)) rfl rfl hl.1 rfl (Nat.le_of_ble_eq_true rfl) dL_alarm_242 ⟨by decide +kernel, by decide +kernel⟩) hS (fun locs hS => ?_)
  refine kr_top (y := 2) (by decide +kernel) ?_
  refine lv_iconst (v := 2) hx hb dL_alarm_245 (by decide) ?_
  refine lv_icmp_ne (tgt := 362) hx hb dL_alarm_246 (by decide) (fun hc => absurd (by decide) hc) (fun _ => ?_)
  refine lv_aload_n hx hb dL_alarm_249 rfl (lv_at hl 0 rfl) ?_
  refine lv_iconst (v := 2) hx hb dL_alarm_250 (by decide) ?_
  refine kgo_pi (v := nI (sA_6 12 2)) (kc_V (As := [.int (nI 2)]) (rest := []) S hE hS hAb (cp_probes ε l hw bA_6 (i := 2) (by decide +kernel)) (cwV 1 hts gL_alarm_X4_probes rfl rfl rfl (by decide +kernel) ⟨Nat.le_of_ble_eq_true rfl, Nat.le_of_ble_eq_true rfl⟩) (hw.lv 0 0 (rfl : (0 : Nat) = 0)) rfl rfl hl.1 rfl (Nat.le_of_ble_eq_true rfl) dL_alarm_251 ⟨by decide +kernel, by decide +kernel⟩) hS (fun locs hS => ?_)
  refine kr_top (y := 2) (by decide +kernel) ?_
  refine lv_iconst (v := 2) hx hb dL_alarm_254 (by decide) ?_
  refine lv_icmp_ne (tgt := 362) hx hb dL_alarm_255 (by decide) (fun hc => absurd (by decide) hc) (fun _ => ?_)
  refine lv_aload_n hx hb dL_alarm_258 rfl (lv_at hl 0 rfl) ?_
  refine lv_iconst (v := 1) hx hb dL_alarm_259 (by decide) ?_
  refine kgo_pi (v := nI (sA_6 13 1)) (kc_V (As := [.int (nI 1)]) (rest := []) S hE hS hAb (cp_failures ε l hw bA_6 (i := 1) (by decide +kernel)) (cwV 1 hts gL_alarm_X4_failures rfl rfl rfl (by decide +kernel) ⟨Nat.le_of_ble_eq_true rfl, Nat.le_of_ble_eq_true rfl⟩) (hw.lv 0 0 (rfl : (0 : Nat) = 0)) rfl rfl hl.1 rfl (Nat.le_of_ble_eq_true rfl) dL_alarm_260 ⟨by decide +kernel, by decide +kernel⟩) hS (fun locs hS => ?_)
  refine kr_top (y := 0) (by decide +kernel) ?_
  refine lv_if_ne (tgt := 362) hx hb dL_alarm_263 (by decide) (fun hc => absurd (by decide) hc) (fun _ => ?_)
  refine lv_aload_n hx hb dL_alarm_266 rfl (lv_at hl 0 rfl) ?_
  refine lv_iconst (v := 0) hx hb dL_alarm_267 (by decide) ?_
  refine kgo_pi (v := nI (sA_6 24 0)) (kc_V (As := [.int (nI 0)]) (rest := []) S hE hS hAb (cp_verdict ε l hw bA_6 (i := 0) (by decide +kernel)) (cwV 1 hts gL_alarm_X4_verdict rfl rfl rfl (by decide +kernel) ⟨Nat.le_of_ble_eq_true rfl, Nat.le_of_ble_eq_true rfl⟩) (hw.lv 0 0 (rfl : (0 : Nat) = 0)) rfl rfl hl.1 rfl (Nat.le_of_ble_eq_true rfl) dL_alarm_268 ⟨by decide +kernel, by decide +kernel⟩) hS (fun locs hS => ?_)
  refine kr_top (y := 1) (by decide +kernel) ?_
  refine lv_iconst (v := 1) hx hb dL_alarm_271 (by decide) ?_
  refine lv_icmp_ne (tgt := 362) hx hb dL_alarm_272 (by decide) (fun hc => absurd (by decide) hc) (fun _ => ?_)
  refine lv_aload_n hx hb dL_alarm_275 rfl (lv_at hl 0 rfl) ?_
  refine lv_iconst (v := 1) hx hb dL_alarm_276 (by decide) ?_
  refine kgo_pi (v := nI (sA_6 24 1)) (kc_V (As := [.int (nI 1)]) (rest := []) S hE hS hAb (cp_verdict ε l hw bA_6 (i := 1) (by decide +kernel)) (cwV 1 hts gL_alarm_X4_verdict rfl rfl rfl (by decide +kernel) ⟨Nat.le_of_ble_eq_true rfl, Nat.le_of_ble_eq_true rfl⟩) (hw.lv 0 0 (rfl : (0 : Nat) = 0)) rfl rfl hl.1 rfl (Nat.le_of_ble_eq_true rfl) dL_alarm_277 ⟨by decide +kernel, by decide +kernel⟩) hS (fun locs hS => ?_)
  refine kr_top (y := 1) (by decide +kernel) ?_
  refine lv_iconst (v := 1) hx hb dL_alarm_280 (by decide) ?_
  refine lv_icmp_ne (tgt := 362) hx hb dL_alarm_281 (by decide) (fun hc => absurd (by decide) hc) (fun _ => ?_)
  refine lv_aload_n hx hb dL_alarm_284 rfl (lv_at hl 0 rfl) ?_
  refine lv_iconst (v := 0) hx hb dL_alarm_285 (by decide) ?_
  refine kgo_pi (v := nI (kTrm sA_6 0 (sA_6 1 0))) (kc_V (As := [.int (nI 0)]) (rest := []) S hE hS hAb (cp_trusted ε l hw bA_6 (i := 0) (by decide +kernel)) (cwV 1 hts gL_alarm_X4_trusted rfl rfl rfl (by decide +kernel) ⟨Nat.le_of_ble_eq_true rfl, Nat.le_of_ble_eq_true rfl⟩) (hw.lv 0 0 (rfl : (0 : Nat) = 0)) rfl rfl hl.1 rfl (Nat.le_of_ble_eq_true rfl) dL_alarm_286 ⟨by decide +kernel, by decide +kernel⟩) hS (fun locs hS => ?_)
  refine kr_top (y := 6) (by decide +kernel) ?_
  refine lv_bipush (v := 6) hx hb dL_alarm_289 (by decide) ?_
  refine lv_icmp_ne (tgt := 362) hx hb dL_alarm_291 (by decide) (fun hc => absurd (by decide) hc) (fun _ => ?_)
  refine lv_aload_n hx hb dL_alarm_294 rfl (lv_at hl 0 rfl) ?_
  refine lv_iconst (v := 1) hx hb dL_alarm_295 (by decide) ?_
  refine kgo_pi (v := nI (kTrm sA_6 1 (sA_6 1 0))) (kc_V (As := [.int (nI 1)]) (rest := []) S hE hS hAb (cp_trusted ε l hw bA_6 (i := 1) (by decide +kernel)) (cwV 1 hts gL_alarm_X4_trusted rfl rfl rfl (by decide +kernel) ⟨Nat.le_of_ble_eq_true rfl, Nat.le_of_ble_eq_true rfl⟩) (hw.lv 0 0 (rfl : (0 : Nat) = 0)) rfl rfl hl.1 rfl (Nat.le_of_ble_eq_true rfl) dL_alarm_296 ⟨by decide +kernel, by decide +kernel⟩) hS (fun locs hS => ?_)
  refine kr_top (y := 7) (by decide +kernel) ?_
  refine lv_bipush (v := 7) hx hb dL_alarm_299 (by decide) ?_
  refine lv_icmp_ne (tgt := 362) hx hb dL_alarm_301 (by decide) (fun hc => absurd (by decide) hc) (fun _ => ?_)
  refine lv_aload_n hx hb dL_alarm_304 rfl (lv_at hl 0 rfl) ?_
  refine lv_iconst (v := 0) hx hb dL_alarm_305 (by decide) ?_
  refine kgo_pf (v := FP.fdiv (FP.i2f (nI (sA_6 26 0))) (FP.i2f (nI (sA_6 27 0)))) (kc_V (As := [.int (nI 0)]) (rest := []) S hE hS hAb (cp_availability ε l hw bA_6 (i := 0) (by decide +kernel) (by decide +kernel) (by decide +kernel) (by unfold vf_n32; decide +kernel)) (cwV 1 hts gL_alarm_X4_availability rfl rfl rfl (by decide +kernel) ⟨Nat.le_of_ble_eq_true rfl, Nat.le_of_ble_eq_true rfl⟩) (hw.lv 0 0 (rfl : (0 : Nat) = 0)) rfl rfl hl.1 rfl (Nat.le_of_ble_eq_true rfl) dL_alarm_306 ⟨by decide +kernel, by decide +kernel⟩) hS (fun locs hS => ?_)
  refine lv_fconst1 hx hb dL_alarm_309 ?_
  refine lv_fcmp hx hb dL_alarm_310 ?_
  refine kr_top (y := 0) (by decide +kernel) ?_
  refine lv_if_ne (tgt := 362) hx hb dL_alarm_311 (by decide) (fun hc => absurd (by decide) hc) (fun _ => ?_)
  refine lv_aload_n hx hb dL_alarm_314 rfl (lv_at hl 0 rfl) ?_
  refine lv_iconst (v := 0) hx hb dL_alarm_315 (by decide) ?_
  refine lv_iconst (v := 1) hx hb dL_alarm_316 (by decide) ?_
  refine lv_iconst (v := 1) hx hb dL_alarm_317 (by decide) ?_
  refine kgo_i (kc_V (As := [.int (nI 0), .int (nI 1), .int (bI true)]) (rest := []) S hE hS hAb (cp_setDown ε l hAb hw bA_6 (i := 0) (r := 1) (b := true) (by decide +kernel) (by decide +kernel)) (cwV 3 hts gL_alarm_X4_setDown rfl rfl rfl (by decide +kernel) ⟨Nat.le_of_ble_eq_true rfl, Nat.le_of_ble_eq_true rfl⟩) (hw.lv 0 0 (rfl : (0 : Nat) = 0)) rfl rfl hl.1 rfl (Nat.le_of_ble_eq_true rfl) dL_alarm_318 ⟨by decide +kernel, by decide +kernel⟩) hS (fun _ h => h) (fun r9 H1 locs hp hz1 hq hS => ?_)
  obtain ⟨e9, hw⟩ := hp
  have hw : kW ε (kGe s.heap.size) ad sA_7 H1 := hw
  clear hz1 hq
  refine W.widen (k := 147) (n := 887) (by decide +kernel) (by decide +kernel) ?_
  refine kr_top (y := 0) (e9.trans (by decide +kernel)) ?_
  have hA2 : ∀ q, H1.size ≤ q → kGe s.heap.size q := fun q h => Nat.le_trans hS.1 h
  refine lv_if_ne (tgt := 362) hx hb dL_alarm_321 (by decide) (fun hc => absurd (by decide) hc) (fun _ => ?_)
  refine lv_aload_n hx hb dL_alarm_324 rfl (lv_at hl 0 rfl) ?_
  refine lv_iconst (v := 0) hx hb dL_alarm_325 (by decide) ?_
  refine lv_iconst (v := 2) hx hb dL_alarm_326 (by decide) ?_
  refine lv_iconst (v := 1) hx hb dL_alarm_327 (by decide) ?_
  refine kgo_i (kc_V (As := [.int (nI 0), .int (nI 2), .int (bI true)]) (rest := []) S hE hS hAb (cp_setDown ε l hAb hw bA_7 (i := 0) (r := 2) (b := true) (by decide +kernel) (by decide +kernel)) (cwV 3 hts gL_alarm_X4_setDown rfl rfl rfl (by decide +kernel) ⟨Nat.le_of_ble_eq_true rfl, Nat.le_of_ble_eq_true rfl⟩) (hw.lv 0 0 (rfl : (0 : Nat) = 0)) rfl rfl hl.1 rfl (Nat.le_of_ble_eq_true rfl) dL_alarm_328 ⟨by decide +kernel, by decide +kernel⟩) hS (fun _ h => h) (fun r9 H1 locs hp hz1 hq hS => ?_)
  obtain ⟨e9, hw⟩ := hp
  have hw : kW ε (kGe s.heap.size) ad sA_8 H1 := hw
  clear hz1 hq
  refine W.widen (k := 147) (n := 887) (by decide +kernel) (by decide +kernel) ?_
  refine kr_top (y := 0) (e9.trans (by decide +kernel)) ?_
  have hA2 : ∀ q, H1.size ≤ q → kGe s.heap.size q := fun q h => Nat.le_trans hS.1 h
  refine lv_if_ne (tgt := 362) hx hb dL_alarm_331 (by decide) (fun hc => absurd (by decide) hc) (fun _ => ?_)
  refine lv_aload_n hx hb dL_alarm_334 rfl (lv_at hl 0 rfl) ?_
  refine lv_iconst (v := 0) hx hb dL_alarm_335 (by decide) ?_
  refine lv_iconst (v := 1) hx hb dL_alarm_336 (by decide) ?_
  refine lv_iconst (v := 1) hx hb dL_alarm_337 (by decide) ?_
  refine kgo_i (kc_V (As := [.int (nI 0), .int (nI 1), .int (bI true)]) (rest := []) S hE hS hAb (cp_setDown ε l hAb hw bA_8 (i := 0) (r := 1) (b := true) (by decide +kernel) (by decide +kernel)) (cwV 3 hts gL_alarm_X4_setDown rfl rfl rfl (by decide +kernel) ⟨Nat.le_of_ble_eq_true rfl, Nat.le_of_ble_eq_true rfl⟩) (hw.lv 0 0 (rfl : (0 : Nat) = 0)) rfl rfl hl.1 rfl (Nat.le_of_ble_eq_true rfl) dL_alarm_338 ⟨by decide +kernel, by decide +kernel⟩) hS (fun _ h => h) (fun r9 H1 locs hp hz1 hq hS => ?_)
  obtain ⟨e9, hw⟩ := hp
  have hw : kW ε (kGe s.heap.size) ad sA_9 H1 := hw
  clear hz1 hq
  refine W.widen (k := 147) (n := 887) (by decide +kernel) (by decide +kernel) ?_
  refine kr_top (y := 1) (e9.trans (by decide +kernel)) ?_
  have hA2 : ∀ q, H1.size ≤ q → kGe s.heap.size q := fun q h => Nat.le_trans hS.1 h
  refine lv_if_eq (tgt := 362) hx hb dL_alarm_341 (by decide) (fun hc => absurd hc (by decide)) (fun _ => ?_)
  refine lv_aload_n hx hb dL_alarm_344 rfl (lv_at hl 0 rfl) ?_
  refine lv_iconst (v := 0) hx hb dL_alarm_345 (by decide) ?_
  refine kgo_pi (v := nI (kFm sA_9 0 (sA_9 1 0))) (kc_V (As := [.int (nI 0)]) (rest := []) S hE hS hAb (cp_failing ε l hw bA_9 (i := 0) (by decide +kernel)) (cwV 1 hts gL_alarm_X4_failing rfl rfl rfl (by decide +kernel) ⟨Nat.le_of_ble_eq_true rfl, Nat.le_of_ble_eq_true rfl⟩) (hw.lv 0 0 (rfl : (0 : Nat) = 0)) rfl rfl hl.1 rfl (Nat.le_of_ble_eq_true rfl) dL_alarm_346 ⟨by decide +kernel, by decide +kernel⟩) hS (fun locs hS => ?_)
  refine kr_top (y := 6) (by decide +kernel) ?_
  refine lv_bipush (v := 6) hx hb dL_alarm_349 (by decide) ?_
  refine lv_icmp_ne (tgt := 362) hx hb dL_alarm_351 (by decide) (fun hc => absurd (by decide) hc) (fun _ => ?_)
  refine lv_aload_n hx hb dL_alarm_354 rfl (lv_at hl 0 rfl) ?_
  refine lv_iconst (v := 1) hx hb dL_alarm_355 (by decide) ?_
  refine kgo_pi (v := nI (kFm sA_9 1 (sA_9 1 0))) (kc_V (As := [.int (nI 1)]) (rest := []) S hE hS hAb (cp_failing ε l hw bA_9 (i := 1) (by decide +kernel)) (cwV 1 hts gL_alarm_X4_failing rfl rfl rfl (by decide +kernel) ⟨Nat.le_of_ble_eq_true rfl, Nat.le_of_ble_eq_true rfl⟩) (hw.lv 0 0 (rfl : (0 : Nat) = 0)) rfl rfl hl.1 rfl (Nat.le_of_ble_eq_true rfl) dL_alarm_356 ⟨by decide +kernel, by decide +kernel⟩) hS (fun locs hS => ?_)
  refine kr_top (y := 0) (by decide +kernel) ?_
  refine lv_if_eq (tgt := 364) hx hb dL_alarm_359 (by decide) (fun _ => ?_) (fun hc => absurd (by decide) hc)
  exact KK _ _ _ _ hw hS hl
set_option maxHeartbeats 8000000 in
set_option maxRecDepth 100000 in
theorem sgA_2 (S : CallFix p m c cL_alarm 1 s args wsL_alarm RL) (hE : kE ε s) (hst : l.stackTraces = false) (hlo : ε.2.2.1 ≤ s.heap.size) (hw : kW ε (kGe s.heap.size) ad sA_9 H) (hS : va_S (kGe s.heap.size) s.heap H locs) (hl : lv_has ls 1 [(0, .ref (ad 0 0))])
    (KK : ∀ (ad' : Nat → Nat → Nat) (H' : Heap) (locs' : List Loc) (ls' : Array Slot), kW ε (kGe s.heap.size) ad' sA_10 H' → va_S (kGe s.heap.size) s.heap H' locs' → lv_has ls' 1 [(0, .ref (ad' 0 0))] → W p l e ({ frames := 13, cells := 277, slots := 1668, locals := 420 }) s m args below meth c H' locs' 147 887 Q (F0 m 499 ls' [])) : W p l e ({ frames := 13, cells := 277, slots := 1668, locals := 420 }) s m args below meth c H locs 147 887 Q (F0 m 364 ls []) := by
  have hx := S.1
  have hb := S.2.1
  have hown : s.vm.findClass RL = some m.cls := S.2.2.2.1
  have hts := S.2.2.2.2
  have hK := hE.1
  have hAb : ∀ q, kGe s.heap.size q → kHi ε q := fun q h => Nat.le_trans hlo h
  have hA2 : ∀ q, H.size ≤ q → kGe s.heap.size q := fun q h => Nat.le_trans hS.1 h
  refine lv_aload_n hx hb dL_alarm_364 rfl (lv_at hl 0 rfl) ?_
  refine lv_iconst (v := 4) hx hb dL_alarm_365 (by decide) ?_
  refine kgo_i (kc_V (As := [.int (nI 4)]) (rest := []) S hE hS hAb (cc_pass0 ε l (x0 := ad 0 0) (t := 4) hAb hw bA_9 rfl (by decide +kernel) (by decide +kernel) (by decide +kernel) hA2 (by decide +kernel)) (cwV 1 hts gL_alarm_X4_pass rfl rfl rfl (by decide +kernel) ⟨Nat.le_of_ble_eq_true rfl, Nat.le_of_ble_eq_true rfl⟩) (hw.lv 0 0 (rfl : (0 : Nat) = 0)) rfl rfl hl.1 rfl (Nat.le_of_ble_eq_true rfl) dL_alarm_366 ⟨by decide +kernel, by decide +kernel⟩) hS (fun _ h => h) (fun r9 H1 locs hp hz1 hq hS => ?_)
  obtain ⟨e9, ad, ea, hw⟩ := hp
  have hl : lv_has ls 1 [(0, .ref (ad 0 0))] := by rw [ea]; exact hl
  clear ea
  have hw : kW ε (kGe s.heap.size) ad sA_10 H1 := hw
  clear hz1 hq
  refine W.widen (k := 147) (n := 887) (by decide +kernel) (by decide +kernel) ?_
  refine kr_top (y := 0) (e9.trans (by decide +kernel)) ?_
  have hA2 : ∀ q, H1.size ≤ q → kGe s.heap.size q := fun q h => Nat.le_trans hS.1 h
  refine lv_if_ne (tgt := 497) hx hb dL_alarm_369 (by decide) (fun hc => absurd (by decide) hc) (fun _ => ?_)
  refine lv_aload_n hx hb dL_alarm_372 rfl (lv_at hl 0 rfl) ?_
  refine lv_iconst (v := 0) hx hb dL_alarm_373 (by decide) ?_
  refine lv_iconst (v := 1) hx hb dL_alarm_374 (by decide) ?_
  refine kgo_pi (v := nI (sA_10 32 (6 * 0 + 1))) (kc_V (As := [.int (nI 0), .int (nI 1)]) (rest := []) S hE hS hAb (cp_repetition ε l hw bA_10 (i := 0) (r := 1) (by decide +kernel) (by decide +kernel)) (cwV 2 hts gL_alarm_X4_repetition rfl rfl rfl (by decide +kernel) ⟨Nat.le_of_ble_eq_true rfl, Nat.le_of_ble_eq_true rfl⟩) (hw.lv 0 0 (rfl : (0 : Nat) = 0)) rfl rfl hl.1 rfl (Nat.le_of_ble_eq_true rfl) dL_alarm_375 ⟨by decide +kernel, by decide +kernel⟩) hS (fun locs hS => ?_)
  refine kr_top (y := 2) (by decide +kernel) ?_
  refine lv_iconst (v := 2) hx hb dL_alarm_378 (by decide) ?_
  refine lv_icmp_ne (tgt := 497) hx hb dL_alarm_379 (by decide) (fun hc => absurd (by decide) hc) (fun _ => ?_)
  refine lv_aload_n hx hb dL_alarm_382 rfl (lv_at hl 0 rfl) ?_
  refine lv_iconst (v := 0) hx hb dL_alarm_383 (by decide) ?_
  refine lv_iconst (v := 1) hx hb dL_alarm_384 (by decide) ?_
  refine kgo_pi (v := nI (kNext sA_10 0 1 (sA_10 0 0 + 1))) (kc_V (As := [.int (nI 0), .int (nI 1)]) (rest := []) S hE hS hAb (cp_nextProbe ε l hw bA_10 (i := 0) (r := 1) (by decide +kernel) (by decide +kernel)) (cwV 2 hts gL_alarm_X4_nextProbe rfl rfl rfl (by decide +kernel) ⟨Nat.le_of_ble_eq_true rfl, Nat.le_of_ble_eq_true rfl⟩) (hw.lv 0 0 (rfl : (0 : Nat) = 0)) rfl rfl hl.1 rfl (Nat.le_of_ble_eq_true rfl) dL_alarm_385 ⟨by decide +kernel, by decide +kernel⟩) hS (fun locs hS => ?_)
  refine kr_top (y := 11) (by decide +kernel) ?_
  refine lv_bipush (v := 11) hx hb dL_alarm_388 (by decide) ?_
  refine lv_icmp_ne (tgt := 497) hx hb dL_alarm_390 (by decide) (fun hc => absurd (by decide) hc) (fun _ => ?_)
  refine lv_aload_n hx hb dL_alarm_393 rfl (lv_at hl 0 rfl) ?_
  refine lv_iconst (v := 0) hx hb dL_alarm_394 (by decide) ?_
  refine lv_iconst (v := 2) hx hb dL_alarm_395 (by decide) ?_
  refine kgo_pi (v := nI (sA_10 32 (6 * 0 + 2))) (kc_V (As := [.int (nI 0), .int (nI 2)]) (rest := []) S hE hS hAb (cp_repetition ε l hw bA_10 (i := 0) (r := 2) (by decide +kernel) (by decide +kernel)) (cwV 2 hts gL_alarm_X4_repetition rfl rfl rfl (by decide +kernel) ⟨Nat.le_of_ble_eq_true rfl, Nat.le_of_ble_eq_true rfl⟩) (hw.lv 0 0 (rfl : (0 : Nat) = 0)) rfl rfl hl.1 rfl (Nat.le_of_ble_eq_true rfl) dL_alarm_396 ⟨by decide +kernel, by decide +kernel⟩) hS (fun locs hS => ?_)
  refine kr_top (y := 1) (by decide +kernel) ?_
  refine lv_iconst (v := 1) hx hb dL_alarm_399 (by decide) ?_
  refine lv_icmp_ne (tgt := 497) hx hb dL_alarm_400 (by decide) (fun hc => absurd (by decide) hc) (fun _ => ?_)
  refine lv_aload_n hx hb dL_alarm_403 rfl (lv_at hl 0 rfl) ?_
  refine lv_iconst (v := 0) hx hb dL_alarm_404 (by decide) ?_
  refine lv_iconst (v := 2) hx hb dL_alarm_405 (by decide) ?_
  refine kgo_pi (v := nI (kNext sA_10 0 2 (sA_10 0 0 + 1))) (kc_V (As := [.int (nI 0), .int (nI 2)]) (rest := []) S hE hS hAb (cp_nextProbe ε l hw bA_10 (i := 0) (r := 2) (by decide +kernel) (by decide +kernel)) (cwV 2 hts gL_alarm_X4_nextProbe rfl rfl rfl (by decide +kernel) ⟨Nat.le_of_ble_eq_true rfl, Nat.le_of_ble_eq_true rfl⟩) (hw.lv 0 0 (rfl : (0 : Nat) = 0)) rfl rfl hl.1 rfl (Nat.le_of_ble_eq_true rfl) dL_alarm_406 ⟨by decide +kernel, by decide +kernel⟩) hS (fun locs hS => ?_)
  refine kr_top (y := 9) (by decide +kernel) ?_
  refine lv_bipush (v := 9) hx hb dL_alarm_409 (by decide) ?_
  refine lv_icmp_ne (tgt := 497) hx hb dL_alarm_411 (by decide) (fun hc => absurd (by decide) hc) (fun _ => ?_)
  refine lv_aload_n hx hb dL_alarm_414 rfl (lv_at hl 0 rfl) ?_
  refine lv_iconst (v := 0) hx hb dL_alarm_415 (by decide) ?_
  refine lv_iconst (v := 0) hx hb dL_alarm_416 (by decide) ?_
  refine kgo_pi (v := nI (sA_10 32 (6 * 0 + 0))) (kc_V (As := [.int (nI 0), .int (nI 0)]) (rest := []) S hE hS hAb (cp_repetition ε l hw bA_10 (i := 0) (r := 0) (by decide +kernel) (by decide +kernel)) (cwV 2 hts gL_alarm_X4_repetition rfl rfl rfl (by decide +kernel) ⟨Nat.le_of_ble_eq_true rfl, Nat.le_of_ble_eq_true rfl⟩) (hw.lv 0 0 (rfl : (0 : Nat) = 0)) rfl rfl hl.1 rfl (Nat.le_of_ble_eq_true rfl) dL_alarm_417 ⟨by decide +kernel, by decide +kernel⟩) hS (fun locs hS => ?_)
  refine kr_top (y := 0) (by decide +kernel) ?_
  refine lv_if_ne (tgt := 497) hx hb dL_alarm_420 (by decide) (fun hc => absurd (by decide) hc) (fun _ => ?_)
  refine lv_aload_n hx hb dL_alarm_423 rfl (lv_at hl 0 rfl) ?_
  refine lv_iconst (v := 0) hx hb dL_alarm_424 (by decide) ?_
  refine lv_iconst (v := 1) hx hb dL_alarm_425 (by decide) ?_
  refine kgo_pi (v := nI (sA_10 31 (6 * 0 + 1))) (kc_V (As := [.int (nI 0), .int (nI 1)]) (rest := []) S hE hS hAb (cp_vote ε l hw bA_10 (i := 0) (r := 1) (by decide +kernel) (by decide +kernel)) (cwV 2 hts gL_alarm_X4_vote rfl rfl rfl (by decide +kernel) ⟨Nat.le_of_ble_eq_true rfl, Nat.le_of_ble_eq_true rfl⟩) (hw.lv 0 0 (rfl : (0 : Nat) = 0)) rfl rfl hl.1 rfl (Nat.le_of_ble_eq_true rfl) dL_alarm_426 ⟨by decide +kernel, by decide +kernel⟩) hS (fun locs hS => ?_)
  refine kr_top (y := 1) (by decide +kernel) ?_
  refine lv_iconst (v := 1) hx hb dL_alarm_429 (by decide) ?_
  refine lv_icmp_ne (tgt := 497) hx hb dL_alarm_430 (by decide) (fun hc => absurd (by decide) hc) (fun _ => ?_)
  refine lv_aload_n hx hb dL_alarm_433 rfl (lv_at hl 0 rfl) ?_
  refine lv_iconst (v := 0) hx hb dL_alarm_434 (by decide) ?_
  refine lv_iconst (v := 0) hx hb dL_alarm_435 (by decide) ?_
  refine kgo_pi (v := nI (sA_10 31 (6 * 0 + 0))) (kc_V (As := [.int (nI 0), .int (nI 0)]) (rest := []) S hE hS hAb (cp_vote ε l hw bA_10 (i := 0) (r := 0) (by decide +kernel) (by decide +kernel)) (cwV 2 hts gL_alarm_X4_vote rfl rfl rfl (by decide +kernel) ⟨Nat.le_of_ble_eq_true rfl, Nat.le_of_ble_eq_true rfl⟩) (hw.lv 0 0 (rfl : (0 : Nat) = 0)) rfl rfl hl.1 rfl (Nat.le_of_ble_eq_true rfl) dL_alarm_436 ⟨by decide +kernel, by decide +kernel⟩) hS (fun locs hS => ?_)
  refine kr_top (y := 1) (by decide +kernel) ?_
  refine lv_iconst (v := 1) hx hb dL_alarm_439 (by decide) ?_
  refine lv_icmp_ne (tgt := 497) hx hb dL_alarm_440 (by decide) (fun hc => absurd (by decide) hc) (fun _ => ?_)
  refine lv_aload_n hx hb dL_alarm_443 rfl (lv_at hl 0 rfl) ?_
  refine lv_iconst (v := 1) hx hb dL_alarm_444 (by decide) ?_
  refine kgo_pi (v := nI (sA_10 13 1)) (kc_V (As := [.int (nI 1)]) (rest := []) S hE hS hAb (cp_failures ε l hw bA_10 (i := 1) (by decide +kernel)) (cwV 1 hts gL_alarm_X4_failures rfl rfl rfl (by decide +kernel) ⟨Nat.le_of_ble_eq_true rfl, Nat.le_of_ble_eq_true rfl⟩) (hw.lv 0 0 (rfl : (0 : Nat) = 0)) rfl rfl hl.1 rfl (Nat.le_of_ble_eq_true rfl) dL_alarm_445 ⟨by decide +kernel, by decide +kernel⟩) hS (fun locs hS => ?_)
  refine kr_top (y := 2) (by decide +kernel) ?_
  refine lv_iconst (v := 2) hx hb dL_alarm_448 (by decide) ?_
  refine lv_icmp_ne (tgt := 497) hx hb dL_alarm_449 (by decide) (fun hc => absurd (by decide) hc) (fun _ => ?_)
  refine lv_aload_n hx hb dL_alarm_452 rfl (lv_at hl 0 rfl) ?_
  refine lv_iconst (v := 2) hx hb dL_alarm_453 (by decide) ?_
  refine kgo_pi (v := nI (sA_10 13 2)) (kc_V (As := [.int (nI 2)]) (rest := []) S hE hS hAb (cp_failures ε l hw bA_10 (i := 2) (by decide +kernel)) (cwV 1 hts gL_alarm_X4_failures rfl rfl rfl (by decide +kernel) ⟨Nat.le_of_ble_eq_true rfl, Nat.le_of_ble_eq_true rfl⟩) (hw.lv 0 0 (rfl : (0 : Nat) = 0)) rfl rfl hl.1 rfl (Nat.le_of_ble_eq_true rfl) dL_alarm_454 ⟨by decide +kernel, by decide +kernel⟩) hS (fun locs hS => ?_)
  refine kr_top (y := 1) (by decide +kernel) ?_
  refine lv_iconst (v := 1) hx hb dL_alarm_457 (by decide) ?_
  refine lv_icmp_ne (tgt := 497) hx hb dL_alarm_458 (by decide) (fun hc => absurd (by decide) hc) (fun _ => ?_)
  refine lv_aload_n hx hb dL_alarm_461 rfl (lv_at hl 0 rfl) ?_
  refine lv_iconst (v := 0) hx hb dL_alarm_462 (by decide) ?_
  refine kgo_pi (v := nI (sA_10 12 0)) (kc_V (As := [.int (nI 0)]) (rest := []) S hE hS hAb (cp_probes ε l hw bA_10 (i := 0) (by decide +kernel)) (cwV 1 hts gL_alarm_X4_probes rfl rfl rfl (by decide +kernel) ⟨Nat.le_of_ble_eq_true rfl, Nat.le_of_ble_eq_true rfl⟩) (hw.lv 0 0 (rfl : (0 : Nat) = 0)) rfl rfl hl.1 rfl (Nat.le_of_ble_eq_true rfl) dL_alarm_463 ⟨by decide +kernel, by decide +kernel⟩) hS (fun locs hS => ?_)
  refine kr_top (y := 4) (by decide +kernel) ?_
  refine lv_iconst (v := 4) hx hb dL_alarm_466 (by decide) ?_
  refine lv_icmp_ne (tgt := 497) hx hb dL_alarm_467 (by decide) (fun hc => absurd (by decide) hc) (fun _ => ?_)
  refine lv_aload_n hx hb dL_alarm_470 rfl (lv_at hl 0 rfl) ?_
  refine lv_iconst (v := 1) hx hb dL_alarm_471 (by decide) ?_
  refine kgo_pi (v := nI (sA_10 12 1)) (kc_V (As := [.int (nI 1)]) (rest := []) S hE hS hAb (cp_probes ε l hw bA_10 (i := 1) (by decide +kernel)) (cwV 1 hts gL_alarm_X4_probes rfl rfl rfl (by decide +kernel) ⟨Nat.le_of_ble_eq_true rfl, Nat.le_of_ble_eq_true rfl⟩) (hw.lv 0 0 (rfl : (0 : Nat) = 0)) rfl rfl hl.1 rfl (Nat.le_of_ble_eq_true rfl) dL_alarm_472 ⟨by decide +kernel, by decide +kernel⟩) hS (fun locs hS => ?_)
  refine kr_top (y := 5) (by decide +kernel) ?_
  refine lv_iconst (v := 5) hx hb dL_alarm_475 (by decide) ?_
  refine lv_icmp_ne (tgt := 497) hx hb dL_alarm_476 (by decide) (fun hc => absurd (by decide) hc) (fun _ => ?_)
  refine lv_aload_n hx hb dL_alarm_479 rfl (lv_at hl 0 rfl) ?_
  refine lv_iconst (v := 2) hx hb dL_alarm_480 (by decide) ?_
  refine kgo_pi (v := nI (sA_10 12 2)) (kc_V (As := [.int (nI 2)]) (rest := []) S hE hS hAb (cp_probes ε l hw bA_10 (i := 2) (by decide +kernel)) (cwV 1 hts gL_alarm_X4_probes rfl rfl rfl (by decide +kernel) ⟨Nat.le_of_ble_eq_true rfl, Nat.le_of_ble_eq_true rfl⟩) (hw.lv 0 0 (rfl : (0 : Nat) = 0)) rfl rfl hl.1 rfl (Nat.le_of_ble_eq_true rfl) dL_alarm_481 ⟨by decide +kernel, by decide +kernel⟩) hS (fun locs hS => ?_)
  refine kr_top (y := 4) (by decide +kernel) ?_
  refine lv_iconst (v := 4) hx hb dL_alarm_484 (by decide) ?_
  refine lv_icmp_ne (tgt := 497) hx hb dL_alarm_485 (by decide) (fun hc => absurd (by decide) hc) (fun _ => ?_)
  refine lv_aload_n hx hb dL_alarm_488 rfl (lv_at hl 0 rfl) ?_
  refine lv_iconst (v := 0) hx hb dL_alarm_489 (by decide) ?_
  refine kgo_pi (v := nI (sA_10 24 0)) (kc_V (As := [.int (nI 0)]) (rest := []) S hE hS hAb (cp_verdict ε l hw bA_10 (i := 0) (by decide +kernel)) (cwV 1 hts gL_alarm_X4_verdict rfl rfl rfl (by decide +kernel) ⟨Nat.le_of_ble_eq_true rfl, Nat.le_of_ble_eq_true rfl⟩) (hw.lv 0 0 (rfl : (0 : Nat) = 0)) rfl rfl hl.1 rfl (Nat.le_of_ble_eq_true rfl) dL_alarm_490 ⟨by decide +kernel, by decide +kernel⟩) hS (fun locs hS => ?_)
  refine kr_top (y := 1) (by decide +kernel) ?_
  refine lv_iconst (v := 1) hx hb dL_alarm_493 (by decide) ?_
  refine lv_icmp_eq (tgt := 499) hx hb dL_alarm_494 (by decide) (fun _ => ?_) (fun hc => absurd (by decide) hc)
  exact KK _ _ _ _ hw hS hl
set_option maxHeartbeats 8000000 in
set_option maxRecDepth 100000 in
theorem sgA_3 (S : CallFix p m c cL_alarm 1 s args wsL_alarm RL) (hE : kE ε s) (hst : l.stackTraces = false) (hlo : ε.2.2.1 ≤ s.heap.size) (hw : kW ε (kGe s.heap.size) ad sA_10 H) (hS : va_S (kGe s.heap.size) s.heap H locs) (hl : lv_has ls 1 [(0, .ref (ad 0 0))])
    (KK : ∀ (ad' : Nat → Nat → Nat) (H' : Heap) (locs' : List Loc) (ls' : Array Slot), kW ε (kGe s.heap.size) ad' sA_11 H' → va_S (kGe s.heap.size) s.heap H' locs' → lv_has ls' 1 [(0, .ref (ad' 0 0))] → W p l e ({ frames := 13, cells := 277, slots := 1668, locals := 420 }) s m args below meth c H' locs' 277 1668 Q (F0 m 677 ls' [])) : W p l e ({ frames := 13, cells := 277, slots := 1668, locals := 420 }) s m args below meth c H locs 147 887 Q (F0 m 499 ls []) := by
  have hx := S.1
  have hb := S.2.1
  have hown : s.vm.findClass RL = some m.cls := S.2.2.2.1
  have hts := S.2.2.2.2
  have hK := hE.1
  have hAb : ∀ q, kGe s.heap.size q → kHi ε q := fun q h => Nat.le_trans hlo h
  have hA2 : ∀ q, H.size ≤ q → kGe s.heap.size q := fun q h => Nat.le_trans hS.1 h
  refine lv_aload_n hx hb dL_alarm_499 rfl (lv_at hl 0 rfl) ?_
  refine lv_iconst (v := 4) hx hb dL_alarm_500 (by decide) ?_
  refine kgo_i (kc_V (As := [.int (nI 4)]) (rest := []) S hE hS hAb (cc_pass0 ε l (x0 := ad 0 0) (t := 4) hAb hw bA_10 rfl (by decide +kernel) (by decide +kernel) (by decide +kernel) hA2 (by decide +kernel)) (cwV 1 hts gL_alarm_X4_pass rfl rfl rfl (by decide +kernel) ⟨Nat.le_of_ble_eq_true rfl, Nat.le_of_ble_eq_true rfl⟩) (hw.lv 0 0 (rfl : (0 : Nat) = 0)) rfl rfl hl.1 rfl (Nat.le_of_ble_eq_true rfl) dL_alarm_501 ⟨by decide +kernel, by decide +kernel⟩) hS (fun _ h => h) (fun r9 H1 locs hp hz1 hq hS => ?_)
  obtain ⟨e9, ad, ea, hw⟩ := hp
  have hl : lv_has ls 1 [(0, .ref (ad 0 0))] := by rw [ea]; exact hl
  clear ea
  have hw : kW ε (kGe s.heap.size) ad sA_11 H1 := hw
  clear hz1 hq
  refine W.widen (k := 149) (n := 900) (by decide +kernel) (by decide +kernel) ?_
  refine kr_top (y := 1) (e9.trans (by decide +kernel)) ?_
  have hA2 : ∀ q, H1.size ≤ q → kGe s.heap.size q := fun q h => Nat.le_trans hS.1 h
  refine lv_iconst (v := 1) hx hb dL_alarm_504 (by decide) ?_
  refine lv_icmp_ne (tgt := 675) hx hb dL_alarm_505 (by decide) (fun hc => absurd (by decide) hc) (fun _ => ?_)
  refine lv_aload_n hx hb dL_alarm_508 rfl (lv_at hl 0 rfl) ?_
  refine kgo_pi (v := nI (sA_11 0 0)) (kc_V (As := []) (rest := []) S hE hS hAb (cp_minute ε l hw bA_11) (cwV 0 hts gL_alarm_X4_minute rfl rfl rfl (by decide +kernel) ⟨Nat.le_of_ble_eq_true rfl, Nat.le_of_ble_eq_true rfl⟩) (hw.lv 0 0 (rfl : (0 : Nat) = 0)) rfl rfl hl.1 rfl (Nat.le_of_ble_eq_true rfl) dL_alarm_509 ⟨by decide +kernel, by decide +kernel⟩) hS (fun locs hS => ?_)
  refine kr_top (y := 11) (by decide +kernel) ?_
  refine lv_bipush (v := 11) hx hb dL_alarm_512 (by decide) ?_
  refine lv_icmp_ne (tgt := 675) hx hb dL_alarm_514 (by decide) (fun hc => absurd (by decide) hc) (fun _ => ?_)
  refine lv_aload_n hx hb dL_alarm_517 rfl (lv_at hl 0 rfl) ?_
  refine lv_iconst (v := 0) hx hb dL_alarm_518 (by decide) ?_
  refine lv_iconst (v := 1) hx hb dL_alarm_519 (by decide) ?_
  refine kgo_pi (v := nI (sA_11 31 (6 * 0 + 1))) (kc_V (As := [.int (nI 0), .int (nI 1)]) (rest := []) S hE hS hAb (cp_vote ε l hw bA_11 (i := 0) (r := 1) (by decide +kernel) (by decide +kernel)) (cwV 2 hts gL_alarm_X4_vote rfl rfl rfl (by decide +kernel) ⟨Nat.le_of_ble_eq_true rfl, Nat.le_of_ble_eq_true rfl⟩) (hw.lv 0 0 (rfl : (0 : Nat) = 0)) rfl rfl hl.1 rfl (Nat.le_of_ble_eq_true rfl) dL_alarm_520 ⟨by decide +kernel, by decide +kernel⟩) hS (fun locs hS => ?_)
  refine kr_top (y := 2) (by decide +kernel) ?_
  refine lv_iconst (v := 2) hx hb dL_alarm_523 (by decide) ?_
  refine lv_icmp_ne (tgt := 675) hx hb dL_alarm_524 (by decide) (fun hc => absurd (by decide) hc) (fun _ => ?_)
  refine lv_aload_n hx hb dL_alarm_527 rfl (lv_at hl 0 rfl) ?_
  refine lv_iconst (v := 0) hx hb dL_alarm_528 (by decide) ?_
  refine lv_iconst (v := 2) hx hb dL_alarm_529 (by decide) ?_
  refine kgo_pi (v := nI (sA_11 31 (6 * 0 + 2))) (kc_V (As := [.int (nI 0), .int (nI 2)]) (rest := []) S hE hS hAb (cp_vote ε l hw bA_11 (i := 0) (r := 2) (by decide +kernel) (by decide +kernel)) (cwV 2 hts gL_alarm_X4_vote rfl rfl rfl (by decide +kernel) ⟨Nat.le_of_ble_eq_true rfl, Nat.le_of_ble_eq_true rfl⟩) (hw.lv 0 0 (rfl : (0 : Nat) = 0)) rfl rfl hl.1 rfl (Nat.le_of_ble_eq_true rfl) dL_alarm_530 ⟨by decide +kernel, by decide +kernel⟩) hS (fun locs hS => ?_)
  refine kr_top (y := 2) (by decide +kernel) ?_
  refine lv_iconst (v := 2) hx hb dL_alarm_533 (by decide) ?_
  refine lv_icmp_ne (tgt := 675) hx hb dL_alarm_534 (by decide) (fun hc => absurd (by decide) hc) (fun _ => ?_)
  refine lv_aload_n hx hb dL_alarm_537 rfl (lv_at hl 0 rfl) ?_
  refine lv_iconst (v := 0) hx hb dL_alarm_538 (by decide) ?_
  refine lv_iconst (v := 1) hx hb dL_alarm_539 (by decide) ?_
  refine kgo_pi (v := nI (sA_11 32 (6 * 0 + 1))) (kc_V (As := [.int (nI 0), .int (nI 1)]) (rest := []) S hE hS hAb (cp_repetition ε l hw bA_11 (i := 0) (r := 1) (by decide +kernel) (by decide +kernel)) (cwV 2 hts gL_alarm_X4_repetition rfl rfl rfl (by decide +kernel) ⟨Nat.le_of_ble_eq_true rfl, Nat.le_of_ble_eq_true rfl⟩) (hw.lv 0 0 (rfl : (0 : Nat) = 0)) rfl rfl hl.1 rfl (Nat.le_of_ble_eq_true rfl) dL_alarm_540 ⟨by decide +kernel, by decide +kernel⟩) hS (fun locs hS => ?_)
  refine kr_top (y := 0) (by decide +kernel) ?_
  refine lv_if_ne (tgt := 675) hx hb dL_alarm_543 (by decide) (fun hc => absurd (by decide) hc) (fun _ => ?_)
  refine lv_aload_n hx hb dL_alarm_546 rfl (lv_at hl 0 rfl) ?_
  refine lv_iconst (v := 1) hx hb dL_alarm_547 (by decide) ?_
  refine kgo_pi (v := bI ((sA_11 15 0).testBit 1)) (kc_V (As := [.int (nI 1)]) (rest := []) S hE hS hAb (cp_isBad ε l hw bA_11 (i := 1) (by decide +kernel)) (cwV 1 hts gL_alarm_X4_isBad rfl rfl rfl (by decide +kernel) ⟨Nat.le_of_ble_eq_true rfl, Nat.le_of_ble_eq_true rfl⟩) (hw.lv 0 0 (rfl : (0 : Nat) = 0)) rfl rfl hl.1 rfl (Nat.le_of_ble_eq_true rfl) dL_alarm_548 ⟨by decide +kernel, by decide +kernel⟩) hS (fun locs hS => ?_)
  refine kr_top (y := 0) (by decide +kernel) ?_
  refine lv_if_ne (tgt := 675) hx hb dL_alarm_551 (by decide) (fun hc => absurd (by decide) hc) (fun _ => ?_)
  refine lv_aload_n hx hb dL_alarm_554 rfl (lv_at hl 0 rfl) ?_
  refine lv_iconst (v := 2) hx hb dL_alarm_555 (by decide) ?_
  refine kgo_pi (v := bI ((sA_11 15 0).testBit 2)) (kc_V (As := [.int (nI 2)]) (rest := []) S hE hS hAb (cp_isBad ε l hw bA_11 (i := 2) (by decide +kernel)) (cwV 1 hts gL_alarm_X4_isBad rfl rfl rfl (by decide +kernel) ⟨Nat.le_of_ble_eq_true rfl, Nat.le_of_ble_eq_true rfl⟩) (hw.lv 0 0 (rfl : (0 : Nat) = 0)) rfl rfl hl.1 rfl (Nat.le_of_ble_eq_true rfl) dL_alarm_556 ⟨by decide +kernel, by decide +kernel⟩) hS (fun locs hS => ?_)
  refine kr_top (y := 0) (by decide +kernel) ?_
  refine lv_if_ne (tgt := 675) hx hb dL_alarm_559 (by decide) (fun hc => absurd (by decide) hc) (fun _ => ?_)
  refine lv_aload_n hx hb dL_alarm_562 rfl (lv_at hl 0 rfl) ?_
  refine lv_iconst (v := 0) hx hb dL_alarm_563 (by decide) ?_
  refine kgo_pi (v := nI (sA_11 24 0)) (kc_V (As := [.int (nI 0)]) (rest := []) S hE hS hAb (cp_verdict ε l hw bA_11 (i := 0) (by decide +kernel)) (cwV 1 hts gL_alarm_X4_verdict rfl rfl rfl (by decide +kernel) ⟨Nat.le_of_ble_eq_true rfl, Nat.le_of_ble_eq_true rfl⟩) (hw.lv 0 0 (rfl : (0 : Nat) = 0)) rfl rfl hl.1 rfl (Nat.le_of_ble_eq_true rfl) dL_alarm_564 ⟨by decide +kernel, by decide +kernel⟩) hS (fun locs hS => ?_)
  refine kr_top (y := 2) (by decide +kernel) ?_
  refine lv_iconst (v := 2) hx hb dL_alarm_567 (by decide) ?_
  refine lv_icmp_ne (tgt := 675) hx hb dL_alarm_568 (by decide) (fun hc => absurd (by decide) hc) (fun _ => ?_)
  refine lv_aload_n hx hb dL_alarm_571 rfl (lv_at hl 0 rfl) ?_
  refine kgo_pi (v := nI (sA_11 4 0)) (kc_V (As := []) (rest := []) S hE hS hAb (cp_alarms ε l hw bA_11) (cwV 0 hts gL_alarm_X4_alarms rfl rfl rfl (by decide +kernel) ⟨Nat.le_of_ble_eq_true rfl, Nat.le_of_ble_eq_true rfl⟩) (hw.lv 0 0 (rfl : (0 : Nat) = 0)) rfl rfl hl.1 rfl (Nat.le_of_ble_eq_true rfl) dL_alarm_572 ⟨by decide +kernel, by decide +kernel⟩) hS (fun locs hS => ?_)
  refine kr_top (y := 1) (by decide +kernel) ?_
  refine lv_iconst (v := 1) hx hb dL_alarm_575 (by decide) ?_
  refine lv_icmp_ne (tgt := 675) hx hb dL_alarm_576 (by decide) (fun hc => absurd (by decide) hc) (fun _ => ?_)
  refine lv_aload_n hx hb dL_alarm_579 rfl (lv_at hl 0 rfl) ?_
  refine lv_iconst (v := 0) hx hb dL_alarm_580 (by decide) ?_
  refine kgo_pi (v := nI (sA_11 50 0)) (kc_V (As := [.int (nI 0)]) (rest := []) S hE hS hAb (cp_alarmCheck ε l hw bA_11 (i := 0) (by decide +kernel)) (cwV 1 hts gL_alarm_X4_alarmCheck rfl rfl rfl (by decide +kernel) ⟨Nat.le_of_ble_eq_true rfl, Nat.le_of_ble_eq_true rfl⟩) (hw.lv 0 0 (rfl : (0 : Nat) = 0)) rfl rfl hl.1 rfl (Nat.le_of_ble_eq_true rfl) dL_alarm_581 ⟨by decide +kernel, by decide +kernel⟩) hS (fun locs hS => ?_)
  refine kr_top (y := 0) (by decide +kernel) ?_
  refine lv_if_ne (tgt := 675) hx hb dL_alarm_584 (by decide) (fun hc => absurd (by decide) hc) (fun _ => ?_)
  refine lv_aload_n hx hb dL_alarm_587 rfl (lv_at hl 0 rfl) ?_
  refine lv_iconst (v := 0) hx hb dL_alarm_588 (by decide) ?_
  refine kgo_pi (v := nI (sA_11 51 0)) (kc_V (As := [.int (nI 0)]) (rest := []) S hE hS hAb (cp_alarmRaised ε l hw bA_11 (i := 0) (by decide +kernel)) (cwV 1 hts gL_alarm_X4_alarmRaised rfl rfl rfl (by decide +kernel) ⟨Nat.le_of_ble_eq_true rfl, Nat.le_of_ble_eq_true rfl⟩) (hw.lv 0 0 (rfl : (0 : Nat) = 0)) rfl rfl hl.1 rfl (Nat.le_of_ble_eq_true rfl) dL_alarm_589 ⟨by decide +kernel, by decide +kernel⟩) hS (fun locs hS => ?_)
  refine kr_top (y := 11) (by decide +kernel) ?_
  refine lv_bipush (v := 11) hx hb dL_alarm_592 (by decide) ?_
  refine lv_icmp_ne (tgt := 675) hx hb dL_alarm_594 (by decide) (fun hc => absurd (by decide) hc) (fun _ => ?_)
  refine lv_aload_n hx hb dL_alarm_597 rfl (lv_at hl 0 rfl) ?_
  refine lv_iconst (v := 0) hx hb dL_alarm_598 (by decide) ?_
  refine kgo_pi (v := mI (sA_11 52 0)) (kc_V (As := [.int (nI 0)]) (rest := []) S hE hS hAb (cp_alarmClosed ε l hw bA_11 (i := 0) (by decide +kernel)) (cwV 1 hts gL_alarm_X4_alarmClosed rfl rfl rfl (by decide +kernel) ⟨Nat.le_of_ble_eq_true rfl, Nat.le_of_ble_eq_true rfl⟩) (hw.lv 0 0 (rfl : (0 : Nat) = 0)) rfl rfl hl.1 rfl (Nat.le_of_ble_eq_true rfl) dL_alarm_599 ⟨by decide +kernel, by decide +kernel⟩) hS (fun locs hS => ?_)
  refine kr_top (y := (-1)) (by decide +kernel) ?_
  refine lv_iconst (v := -1) hx hb dL_alarm_602 (by decide) ?_
  refine lv_icmp_ne (tgt := 675) hx hb dL_alarm_603 (by decide) (fun hc => absurd (by decide) hc) (fun _ => ?_)
  refine lv_aload_n hx hb dL_alarm_606 rfl (lv_at hl 0 rfl) ?_
  refine lv_iconst (v := 0) hx hb dL_alarm_607 (by decide) ?_
  refine kgo_pi (v := bI (sA_11 25 0 != 0)) (kc_V (As := [.int (nI 0)]) (rest := []) S hE hS hAb (cp_hasAlarm ε l hw bA_11 (i := 0) (by decide +kernel)) (cwV 1 hts gL_alarm_X4_hasAlarm rfl rfl rfl (by decide +kernel) ⟨Nat.le_of_ble_eq_true rfl, Nat.le_of_ble_eq_true rfl⟩) (hw.lv 0 0 (rfl : (0 : Nat) = 0)) rfl rfl hl.1 rfl (Nat.le_of_ble_eq_true rfl) dL_alarm_608 ⟨by decide +kernel, by decide +kernel⟩) hS (fun locs hS => ?_)
  refine kr_top (y := 1) (by decide +kernel) ?_
  refine lv_if_eq (tgt := 675) hx hb dL_alarm_611 (by decide) (fun hc => absurd hc (by decide)) (fun _ => ?_)
  refine lv_aload_n hx hb dL_alarm_614 rfl (lv_at hl 0 rfl) ?_
  refine lv_iconst (v := 1) hx hb dL_alarm_615 (by decide) ?_
  refine kgo_pi (v := bI (sA_11 25 1 != 0)) (kc_V (As := [.int (nI 1)]) (rest := []) S hE hS hAb (cp_hasAlarm ε l hw bA_11 (i := 1) (by decide +kernel)) (cwV 1 hts gL_alarm_X4_hasAlarm rfl rfl rfl (by decide +kernel) ⟨Nat.le_of_ble_eq_true rfl, Nat.le_of_ble_eq_true rfl⟩) (hw.lv 0 0 (rfl : (0 : Nat) = 0)) rfl rfl hl.1 rfl (Nat.le_of_ble_eq_true rfl) dL_alarm_616 ⟨by decide +kernel, by decide +kernel⟩) hS (fun locs hS => ?_)
  refine kr_top (y := 0) (by decide +kernel) ?_
  refine lv_if_ne (tgt := 675) hx hb dL_alarm_619 (by decide) (fun hc => absurd (by decide) hc) (fun _ => ?_)
  refine lv_aload_n hx hb dL_alarm_622 rfl (lv_at hl 0 rfl) ?_
  refine lv_iconst (v := 0) hx hb dL_alarm_623 (by decide) ?_
  refine kgo_pf (v := FP.fdiv (FP.i2f (nI (sA_11 26 0))) (FP.i2f (nI (sA_11 27 0)))) (kc_V (As := [.int (nI 0)]) (rest := []) S hE hS hAb (cp_availability ε l hw bA_11 (i := 0) (by decide +kernel) (by decide +kernel) (by decide +kernel) (by unfold vf_n32; decide +kernel)) (cwV 1 hts gL_alarm_X4_availability rfl rfl rfl (by decide +kernel) ⟨Nat.le_of_ble_eq_true rfl, Nat.le_of_ble_eq_true rfl⟩) (hw.lv 0 0 (rfl : (0 : Nat) = 0)) rfl rfl hl.1 rfl (Nat.le_of_ble_eq_true rfl) dL_alarm_624 ⟨by decide +kernel, by decide +kernel⟩) hS (fun locs hS => ?_)
  refine lv_ldcf (own := RL) (v := 1063675494) hx hb hown (hts (.constantFloat RL 109 (1063675494)) (by decide +kernel)) dL_alarm_627 ?_
  refine lv_fcmp hx hb dL_alarm_629 ?_
  refine kr_top (y := 0) (by decide +kernel) ?_
  refine lv_if_ne (tgt := 675) hx hb dL_alarm_630 (by decide) (fun hc => absurd (by decide) hc) (fun _ => ?_)
  refine lv_aload_n hx hb dL_alarm_633 rfl (lv_at hl 0 rfl) ?_
  refine lv_iconst (v := 1) hx hb dL_alarm_634 (by decide) ?_
  refine kgo_pf (v := FP.fdiv (FP.i2f (nI (sA_11 26 1))) (FP.i2f (nI (sA_11 27 1)))) (kc_V (As := [.int (nI 1)]) (rest := []) S hE hS hAb (cp_availability ε l hw bA_11 (i := 1) (by decide +kernel) (by decide +kernel) (by decide +kernel) (by unfold vf_n32; decide +kernel)) (cwV 1 hts gL_alarm_X4_availability rfl rfl rfl (by decide +kernel) ⟨Nat.le_of_ble_eq_true rfl, Nat.le_of_ble_eq_true rfl⟩) (hw.lv 0 0 (rfl : (0 : Nat) = 0)) rfl rfl hl.1 rfl (Nat.le_of_ble_eq_true rfl) dL_alarm_635 ⟨by decide +kernel, by decide +kernel⟩) hS (fun locs hS => ?_)
  refine lv_fconst1 hx hb dL_alarm_638 ?_
  refine lv_fcmp hx hb dL_alarm_639 ?_
  refine kr_top (y := 0) (by decide +kernel) ?_
  refine lv_if_ne (tgt := 675) hx hb dL_alarm_640 (by decide) (fun hc => absurd (by decide) hc) (fun _ => ?_)
  refine lv_aload_n hx hb dL_alarm_643 rfl (lv_at hl 0 rfl) ?_
  refine lv_iconst (v := 0) hx hb dL_alarm_644 (by decide) ?_
  refine lv_iconst (v := 1) hx hb dL_alarm_645 (by decide) ?_
  refine kgo_pi (v := nI (kNext sA_11 0 1 (sA_11 0 0 + 1))) (kc_V (As := [.int (nI 0), .int (nI 1)]) (rest := []) S hE hS hAb (cp_nextProbe ε l hw bA_11 (i := 0) (r := 1) (by decide +kernel) (by decide +kernel)) (cwV 2 hts gL_alarm_X4_nextProbe rfl rfl rfl (by decide +kernel) ⟨Nat.le_of_ble_eq_true rfl, Nat.le_of_ble_eq_true rfl⟩) (hw.lv 0 0 (rfl : (0 : Nat) = 0)) rfl rfl hl.1 rfl (Nat.le_of_ble_eq_true rfl) dL_alarm_646 ⟨by decide +kernel, by decide +kernel⟩) hS (fun locs hS => ?_)
  refine kr_top (y := 16) (by decide +kernel) ?_
  refine lv_bipush (v := 16) hx hb dL_alarm_649 (by decide) ?_
  refine lv_icmp_ne (tgt := 675) hx hb dL_alarm_651 (by decide) (fun hc => absurd (by decide) hc) (fun _ => ?_)
  refine lv_aload_n hx hb dL_alarm_654 rfl (lv_at hl 0 rfl) ?_
  refine lv_iconst (v := 0) hx hb dL_alarm_655 (by decide) ?_
  refine lv_iconst (v := 2) hx hb dL_alarm_656 (by decide) ?_
  refine kgo_pi (v := nI (kNext sA_11 0 2 (sA_11 0 0 + 1))) (kc_V (As := [.int (nI 0), .int (nI 2)]) (rest := []) S hE hS hAb (cp_nextProbe ε l hw bA_11 (i := 0) (r := 2) (by decide +kernel) (by decide +kernel)) (cwV 2 hts gL_alarm_X4_nextProbe rfl rfl rfl (by decide +kernel) ⟨Nat.le_of_ble_eq_true rfl, Nat.le_of_ble_eq_true rfl⟩) (hw.lv 0 0 (rfl : (0 : Nat) = 0)) rfl rfl hl.1 rfl (Nat.le_of_ble_eq_true rfl) dL_alarm_657 ⟨by decide +kernel, by decide +kernel⟩) hS (fun locs hS => ?_)
  refine kr_top (y := 12) (by decide +kernel) ?_
  refine lv_bipush (v := 12) hx hb dL_alarm_660 (by decide) ?_
  refine lv_icmp_ne (tgt := 675) hx hb dL_alarm_662 (by decide) (fun hc => absurd (by decide) hc) (fun _ => ?_)
  refine lv_aload_n hx hb dL_alarm_665 rfl (lv_at hl 0 rfl) ?_
  refine lv_iconst (v := 3) hx hb dL_alarm_666 (by decide) ?_
  refine lv_iconst (v := 2) hx hb dL_alarm_667 (by decide) ?_
  refine lv_iconst (v := 0) hx hb dL_alarm_668 (by decide) ?_
  refine kgo_i (kc_S (As := [.ref (ad 0 0), .int 3, .int 2, .int 0]) (rest := []) S hE hS hAb (cl_refuses2 ε l hst hw bA_11 (by decide +kernel) (by decide +kernel) (by decide +kernel) (by decide +kernel)) (va_cwS 4 hts gL_alarm_L_refuses rfl rfl rfl (by decide +kernel) ⟨Nat.le_of_ble_eq_true rfl, Nat.le_of_ble_eq_true rfl⟩) rfl hl.1 rfl (Nat.le_of_ble_eq_true rfl) dL_alarm_669 ⟨by decide +kernel, by decide +kernel⟩) hS (fun _ h => h.elim) (fun r9 H1 locs e9 hz1 hq hS => ?_)
  have hw := hw.keep (fun k j hk => hq _ (va_at.lt (hw.1 k j hk).1) (fun h => h))
  clear hz1 hq
  refine W.widen (k := 277) (n := 1668) (by decide +kernel) (by decide +kernel) ?_
  refine kr_top e9 ?_
  have hA2 : ∀ q, H1.size ≤ q → kGe s.heap.size q := fun q h => Nat.le_trans hS.1 h
  refine lv_if_ne (tgt := 677) hx hb dL_alarm_672 (by decide) (fun _ => ?_) (fun hc => absurd hc (by decide))
  exact KK _ _ _ _ hw hS hl
set_option maxHeartbeats 8000000 in
set_option maxRecDepth 100000 in
theorem sgA_4 (S : CallFix p m c cL_alarm 1 s args wsL_alarm RL) (hE : kE ε s) (hst : l.stackTraces = false) (hlo : ε.2.2.1 ≤ s.heap.size) (hw : kW ε (kGe s.heap.size) ad sA_11 H) (hS : va_S (kGe s.heap.size) s.heap H locs) (hl : lv_has ls 1 [(0, .ref (ad 0 0))])
    (KK : ∀ (ad' : Nat → Nat → Nat) (H' : Heap) (locs' : List Loc) (ls' : Array Slot), kW ε (kGe s.heap.size) ad' sA_14 H' → va_S (kGe s.heap.size) s.heap H' locs' → lv_has ls' 1 [(0, .ref (ad' 0 0))] → W p l e ({ frames := 13, cells := 277, slots := 1668, locals := 420 }) s m args below meth c H' locs' 277 1668 Q (F0 m 777 ls' [])) : W p l e ({ frames := 13, cells := 277, slots := 1668, locals := 420 }) s m args below meth c H locs 277 1668 Q (F0 m 677 ls []) := by
  have hx := S.1
  have hb := S.2.1
  have hown : s.vm.findClass RL = some m.cls := S.2.2.2.1
  have hts := S.2.2.2.2
  have hK := hE.1
  have hAb : ∀ q, kGe s.heap.size q → kHi ε q := fun q h => Nat.le_trans hlo h
  have hA2 : ∀ q, H.size ≤ q → kGe s.heap.size q := fun q h => Nat.le_trans hS.1 h
  refine lv_aload_n hx hb dL_alarm_677 rfl (lv_at hl 0 rfl) ?_
  refine lv_iconst (v := 0) hx hb dL_alarm_678 (by decide) ?_
  refine lv_iconst (v := 1) hx hb dL_alarm_679 (by decide) ?_
  refine lv_iconst (v := 0) hx hb dL_alarm_680 (by decide) ?_
  refine kgo_i (kc_V (As := [.int (nI 0), .int (nI 1), .int (bI false)]) (rest := []) S hE hS hAb (cp_setDown ε l hAb hw bA_11 (i := 0) (r := 1) (b := false) (by decide +kernel) (by decide +kernel)) (cwV 3 hts gL_alarm_X4_setDown rfl rfl rfl (by decide +kernel) ⟨Nat.le_of_ble_eq_true rfl, Nat.le_of_ble_eq_true rfl⟩) (hw.lv 0 0 (rfl : (0 : Nat) = 0)) rfl rfl hl.1 rfl (Nat.le_of_ble_eq_true rfl) dL_alarm_681 ⟨by decide +kernel, by decide +kernel⟩) hS (fun _ h => h) (fun r9 H1 locs hp hz1 hq hS => ?_)
  obtain ⟨e9, hw⟩ := hp
  have hw : kW ε (kGe s.heap.size) ad sA_12 H1 := hw
  clear hz1 hq
  refine W.widen (k := 277) (n := 1668) (by decide +kernel) (by decide +kernel) ?_
  refine kr_top (y := 1) (e9.trans (by decide +kernel)) ?_
  have hA2 : ∀ q, H1.size ≤ q → kGe s.heap.size q := fun q h => Nat.le_trans hS.1 h
  refine lv_if_eq (tgt := 781) hx hb dL_alarm_684 (by decide) (fun hc => absurd hc (by decide)) (fun _ => ?_)
  refine lv_aload_n hx hb dL_alarm_687 rfl (lv_at hl 0 rfl) ?_
  refine lv_iconst (v := 4) hx hb dL_alarm_688 (by decide) ?_
  refine kgo_i (kc_V (As := [.int (nI 4)]) (rest := []) S hE hS hAb (cc_pass0 ε l (x0 := ad 0 0) (t := 4) hAb hw bA_12 rfl (by decide +kernel) (by decide +kernel) (by decide +kernel) hA2 (by decide +kernel)) (cwV 1 hts gL_alarm_X4_pass rfl rfl rfl (by decide +kernel) ⟨Nat.le_of_ble_eq_true rfl, Nat.le_of_ble_eq_true rfl⟩) (hw.lv 0 0 (rfl : (0 : Nat) = 0)) rfl rfl hl.1 rfl (Nat.le_of_ble_eq_true rfl) dL_alarm_689 ⟨by decide +kernel, by decide +kernel⟩) hS (fun _ h => h) (fun r9 H1 locs hp hz1 hq hS => ?_)
  obtain ⟨e9, ad, ea, hw⟩ := hp
  have hl : lv_has ls 1 [(0, .ref (ad 0 0))] := by rw [ea]; exact hl
  clear ea
  have hw : kW ε (kGe s.heap.size) ad sA_13 H1 := hw
  clear hz1 hq
  refine W.widen (k := 277) (n := 1668) (by decide +kernel) (by decide +kernel) ?_
  refine kr_top (y := 0) (e9.trans (by decide +kernel)) ?_
  have hA2 : ∀ q, H1.size ≤ q → kGe s.heap.size q := fun q h => Nat.le_trans hS.1 h
  refine lv_if_ne (tgt := 781) hx hb dL_alarm_692 (by decide) (fun hc => absurd (by decide) hc) (fun _ => ?_)
  refine lv_aload_n hx hb dL_alarm_695 rfl (lv_at hl 0 rfl) ?_
  refine lv_iconst (v := 0) hx hb dL_alarm_696 (by decide) ?_
  refine kgo_pi (v := bI (sA_13 25 0 != 0)) (kc_V (As := [.int (nI 0)]) (rest := []) S hE hS hAb (cp_hasAlarm ε l hw bA_13 (i := 0) (by decide +kernel)) (cwV 1 hts gL_alarm_X4_hasAlarm rfl rfl rfl (by decide +kernel) ⟨Nat.le_of_ble_eq_true rfl, Nat.le_of_ble_eq_true rfl⟩) (hw.lv 0 0 (rfl : (0 : Nat) = 0)) rfl rfl hl.1 rfl (Nat.le_of_ble_eq_true rfl) dL_alarm_697 ⟨by decide +kernel, by decide +kernel⟩) hS (fun locs hS => ?_)
  refine kr_top (y := 1) (by decide +kernel) ?_
  refine lv_if_eq (tgt := 781) hx hb dL_alarm_700 (by decide) (fun hc => absurd hc (by decide)) (fun _ => ?_)
  refine lv_aload_n hx hb dL_alarm_703 rfl (lv_at hl 0 rfl) ?_
  refine lv_iconst (v := 1) hx hb dL_alarm_704 (by decide) ?_
  refine kgo_i (kc_V (As := [.int (nI 1)]) (rest := []) S hE hS hAb (cc_pass0 ε l (x0 := ad 0 0) (t := 1) hAb hw bA_13 rfl (by decide +kernel) (by decide +kernel) (by decide +kernel) hA2 (by decide +kernel)) (cwV 1 hts gL_alarm_X4_pass rfl rfl rfl (by decide +kernel) ⟨Nat.le_of_ble_eq_true rfl, Nat.le_of_ble_eq_true rfl⟩) (hw.lv 0 0 (rfl : (0 : Nat) = 0)) rfl rfl hl.1 rfl (Nat.le_of_ble_eq_true rfl) dL_alarm_705 ⟨by decide +kernel, by decide +kernel⟩) hS (fun _ h => h) (fun r9 H1 locs hp hz1 hq hS => ?_)
  obtain ⟨e9, ad, ea, hw⟩ := hp
  have hl : lv_has ls 1 [(0, .ref (ad 0 0))] := by rw [ea]; exact hl
  clear ea
  have hw : kW ε (kGe s.heap.size) ad sA_14 H1 := hw
  clear hz1 hq
  refine W.widen (k := 277) (n := 1668) (by decide +kernel) (by decide +kernel) ?_
  refine kr_top (y := 0) (e9.trans (by decide +kernel)) ?_
  have hA2 : ∀ q, H1.size ≤ q → kGe s.heap.size q := fun q h => Nat.le_trans hS.1 h
  refine lv_if_ne (tgt := 781) hx hb dL_alarm_708 (by decide) (fun hc => absurd (by decide) hc) (fun _ => ?_)
  refine lv_aload_n hx hb dL_alarm_711 rfl (lv_at hl 0 rfl) ?_
  refine lv_iconst (v := 0) hx hb dL_alarm_712 (by decide) ?_
  refine lv_iconst (v := 1) hx hb dL_alarm_713 (by decide) ?_
  refine kgo_pi (v := nI (sA_14 31 (6 * 0 + 1))) (kc_V (As := [.int (nI 0), .int (nI 1)]) (rest := []) S hE hS hAb (cp_vote ε l hw bA_14 (i := 0) (r := 1) (by decide +kernel) (by decide +kernel)) (cwV 2 hts gL_alarm_X4_vote rfl rfl rfl (by decide +kernel) ⟨Nat.le_of_ble_eq_true rfl, Nat.le_of_ble_eq_true rfl⟩) (hw.lv 0 0 (rfl : (0 : Nat) = 0)) rfl rfl hl.1 rfl (Nat.le_of_ble_eq_true rfl) dL_alarm_714 ⟨by decide +kernel, by decide +kernel⟩) hS (fun locs hS => ?_)
  refine kr_top (y := 1) (by decide +kernel) ?_
  refine lv_iconst (v := 1) hx hb dL_alarm_717 (by decide) ?_
  refine lv_icmp_ne (tgt := 781) hx hb dL_alarm_718 (by decide) (fun hc => absurd (by decide) hc) (fun _ => ?_)
  refine lv_aload_n hx hb dL_alarm_721 rfl (lv_at hl 0 rfl) ?_
  refine lv_iconst (v := 0) hx hb dL_alarm_722 (by decide) ?_
  refine lv_iconst (v := 2) hx hb dL_alarm_723 (by decide) ?_
  refine kgo_pi (v := nI (sA_14 31 (6 * 0 + 2))) (kc_V (As := [.int (nI 0), .int (nI 2)]) (rest := []) S hE hS hAb (cp_vote ε l hw bA_14 (i := 0) (r := 2) (by decide +kernel) (by decide +kernel)) (cwV 2 hts gL_alarm_X4_vote rfl rfl rfl (by decide +kernel) ⟨Nat.le_of_ble_eq_true rfl, Nat.le_of_ble_eq_true rfl⟩) (hw.lv 0 0 (rfl : (0 : Nat) = 0)) rfl rfl hl.1 rfl (Nat.le_of_ble_eq_true rfl) dL_alarm_724 ⟨by decide +kernel, by decide +kernel⟩) hS (fun locs hS => ?_)
  refine kr_top (y := 2) (by decide +kernel) ?_
  refine lv_iconst (v := 2) hx hb dL_alarm_727 (by decide) ?_
  refine lv_icmp_ne (tgt := 781) hx hb dL_alarm_728 (by decide) (fun hc => absurd (by decide) hc) (fun _ => ?_)
  refine lv_aload_n hx hb dL_alarm_731 rfl (lv_at hl 0 rfl) ?_
  refine lv_iconst (v := 0) hx hb dL_alarm_732 (by decide) ?_
  refine kgo_pi (v := nI (sA_14 24 0)) (kc_V (As := [.int (nI 0)]) (rest := []) S hE hS hAb (cp_verdict ε l hw bA_14 (i := 0) (by decide +kernel)) (cwV 1 hts gL_alarm_X4_verdict rfl rfl rfl (by decide +kernel) ⟨Nat.le_of_ble_eq_true rfl, Nat.le_of_ble_eq_true rfl⟩) (hw.lv 0 0 (rfl : (0 : Nat) = 0)) rfl rfl hl.1 rfl (Nat.le_of_ble_eq_true rfl) dL_alarm_733 ⟨by decide +kernel, by decide +kernel⟩) hS (fun locs hS => ?_)
  refine kr_top (y := 1) (by decide +kernel) ?_
  refine lv_iconst (v := 1) hx hb dL_alarm_736 (by decide) ?_
  refine lv_icmp_ne (tgt := 781) hx hb dL_alarm_737 (by decide) (fun hc => absurd (by decide) hc) (fun _ => ?_)
  refine lv_aload_n hx hb dL_alarm_740 rfl (lv_at hl 0 rfl) ?_
  refine lv_iconst (v := 0) hx hb dL_alarm_741 (by decide) ?_
  refine kgo_pi (v := bI (sA_14 25 0 != 0)) (kc_V (As := [.int (nI 0)]) (rest := []) S hE hS hAb (cp_hasAlarm ε l hw bA_14 (i := 0) (by decide +kernel)) (cwV 1 hts gL_alarm_X4_hasAlarm rfl rfl rfl (by decide +kernel) ⟨Nat.le_of_ble_eq_true rfl, Nat.le_of_ble_eq_true rfl⟩) (hw.lv 0 0 (rfl : (0 : Nat) = 0)) rfl rfl hl.1 rfl (Nat.le_of_ble_eq_true rfl) dL_alarm_742 ⟨by decide +kernel, by decide +kernel⟩) hS (fun locs hS => ?_)
  refine kr_top (y := 0) (by decide +kernel) ?_
  refine lv_if_ne (tgt := 781) hx hb dL_alarm_745 (by decide) (fun hc => absurd (by decide) hc) (fun _ => ?_)
  refine lv_aload_n hx hb dL_alarm_748 rfl (lv_at hl 0 rfl) ?_
  refine lv_iconst (v := 0) hx hb dL_alarm_749 (by decide) ?_
  refine kgo_pi (v := mI (sA_14 52 0)) (kc_V (As := [.int (nI 0)]) (rest := []) S hE hS hAb (cp_alarmClosed ε l hw bA_14 (i := 0) (by decide +kernel)) (cwV 1 hts gL_alarm_X4_alarmClosed rfl rfl rfl (by decide +kernel) ⟨Nat.le_of_ble_eq_true rfl, Nat.le_of_ble_eq_true rfl⟩) (hw.lv 0 0 (rfl : (0 : Nat) = 0)) rfl rfl hl.1 rfl (Nat.le_of_ble_eq_true rfl) dL_alarm_750 ⟨by decide +kernel, by decide +kernel⟩) hS (fun locs hS => ?_)
  refine kr_top (y := 16) (by decide +kernel) ?_
  refine lv_bipush (v := 16) hx hb dL_alarm_753 (by decide) ?_
  refine lv_icmp_ne (tgt := 781) hx hb dL_alarm_755 (by decide) (fun hc => absurd (by decide) hc) (fun _ => ?_)
  refine lv_aload_n hx hb dL_alarm_758 rfl (lv_at hl 0 rfl) ?_
  refine kgo_pi (v := nI (sA_14 4 0)) (kc_V (As := []) (rest := []) S hE hS hAb (cp_alarms ε l hw bA_14) (cwV 0 hts gL_alarm_X4_alarms rfl rfl rfl (by decide +kernel) ⟨Nat.le_of_ble_eq_true rfl, Nat.le_of_ble_eq_true rfl⟩) (hw.lv 0 0 (rfl : (0 : Nat) = 0)) rfl rfl hl.1 rfl (Nat.le_of_ble_eq_true rfl) dL_alarm_759 ⟨by decide +kernel, by decide +kernel⟩) hS (fun locs hS => ?_)
  refine kr_top (y := 1) (by decide +kernel) ?_
  refine lv_iconst (v := 1) hx hb dL_alarm_762 (by decide) ?_
  refine lv_icmp_ne (tgt := 781) hx hb dL_alarm_763 (by decide) (fun hc => absurd (by decide) hc) (fun _ => ?_)
  refine lv_aload_n hx hb dL_alarm_766 rfl (lv_at hl 0 rfl) ?_
  refine lv_iconst (v := 0) hx hb dL_alarm_767 (by decide) ?_
  refine kgo_pf (v := FP.fdiv (FP.i2f (nI (sA_14 26 0))) (FP.i2f (nI (sA_14 27 0)))) (kc_V (As := [.int (nI 0)]) (rest := []) S hE hS hAb (cp_availability ε l hw bA_14 (i := 0) (by decide +kernel) (by decide +kernel) (by decide +kernel) (by unfold vf_n32; decide +kernel)) (cwV 1 hts gL_alarm_X4_availability rfl rfl rfl (by decide +kernel) ⟨Nat.le_of_ble_eq_true rfl, Nat.le_of_ble_eq_true rfl⟩) (hw.lv 0 0 (rfl : (0 : Nat) = 0)) rfl rfl hl.1 rfl (Nat.le_of_ble_eq_true rfl) dL_alarm_768 ⟨by decide +kernel, by decide +kernel⟩) hS (fun locs hS => ?_)
  refine lv_ldcf (own := RL) (v := 1059760811) hx hb hown (hts (.constantFloat RL 110 (1059760811)) (by decide +kernel)) dL_alarm_771 ?_
  refine lv_fcmp hx hb dL_alarm_773 ?_
  refine kr_top (y := 0) (by decide +kernel) ?_
  refine lv_if_ne (tgt := 781) hx hb dL_alarm_774 (by decide) (fun hc => absurd (by decide) hc) (fun _ => ?_)
  exact KK _ _ _ _ hw hS hl
end KRUNA
theorem kin_L_alarm_X4 : ∀ w ∈ wsX40, w ∈ wsL_alarm := by decide +kernel
set_option maxHeartbeats 4000000 in
set_option maxRecDepth 100000 in
theorem cl_alarm (ε : kEnv) (l : Launch) {H : Heap} (hst : l.stackTraces = false) (hlo : ε.2.2.1 ≤ H.size) : kMi ε l yL_alarm wsL_alarm ({ frames := 13, cells := 277, slots := 1668, locals := 420 }) [] H kNo 277 1668 (fun r9 _ => r9 = 1) := by
  refine kof (cc := cL_alarm) (maxL := 1) (ret := (some .boolean)) (by decide) rfl (Nat.le_of_ble_eq_true rfl) ?_
  intro p e s m below meth c ls S hr hlocks hin hH hE hl
  subst hH
  have S : CallFix p m c cL_alarm 1 s _ wsL_alarm RL := S
  have hx := S.1
  have hb := S.2.1
  have hown : s.vm.findClass RL = some m.cls := S.2.2.2.1
  have hts := S.2.2.2.2
  have hK := hE.1
  have hS : va_S (kGe s.heap.size) s.heap s.heap [] := va_S.rf
  have hAb : ∀ q, kGe s.heap.size q → kHi ε q := fun q h => Nat.le_trans hlo h
  have hl : lv_has ls 1 [] := hl
  refine kr_new (T := TX4) (N := 7) (ci := 5) (fs := [.null, .null, .null, .null, .int 0, .int 0, .int 0]) hx hb hts hown hK hS rfl kin_L_alarm_X4 tyX4 tyX4_ok (by decide +kernel) (by decide +kernel) (by decide +kernel) (dvX4) (Nat.le_of_ble_eq_true rfl) (Nat.le_of_ble_eq_true rfl) dL_alarm_0 (fun H1 hN ha hS => ?_)
  have z1 := hN.1
  refine lv_dup hx hb dL_alarm_3 rfl ?_
  refine kgo_v (kc_I (As := []) (rest := [.ref s.heap.size]) S hE hS hAb (ci_mesh ε l hlo (by omega) ha) (cwI 0 hts gL_alarm_X4_init rfl rfl rfl (hts (.initialized RX4) (by decide +kernel)) (hts (.methodLink RL 104 yX4_init) (by decide +kernel)) (hts (.instanceMethod yX4_init) (by decide +kernel)) rfl (by decide +kernel) ⟨Nat.le_of_ble_eq_true rfl, Nat.le_of_ble_eq_true rfl⟩) rfl hl.1 rfl (Nat.le_of_ble_eq_true rfl) dL_alarm_4 ⟨Nat.le_of_ble_eq_true rfl, Nat.le_of_ble_eq_true rfl⟩) hS (fun q h => Or.elim (show q = s.heap.size ∨ H1.size ≤ q from h) (fun h => Nat.le_of_eq h.symm) (fun h => Nat.le_trans (by omega) h)) (fun H2 locs hp zz2 qq2 hS => ?_)
  obtain ⟨q2, hw⟩ := hp
  refine lv_astore_n (lv' := [(0, .ref s.heap.size)]) hx hb dL_alarm_7 rfl hl (by decide) rfl (fun ls hl => ?_)
  have hw : kW ε (kGe s.heap.size) (kad0 ε s.heap.size q2) sA_0 H2 := hw.wk (fun k i h => Or.elim (show _ = s.heap.size ∨ H1.size ≤ _ from (hw.1 k i h).2) (fun h => Nat.le_of_eq h.symm) (fun h => Nat.le_trans (by omega) h))
  refine W.widen (k := 5) (n := 19) (Nat.le_of_ble_eq_true rfl) (Nat.le_of_ble_eq_true rfl) ?_
  refine sgA_0 S hE hst hlo hw hS hl (fun ad H3 locs ls hw hS hl => ?_)
  refine sgA_1 S hE hst hlo hw hS hl (fun ad H3 locs ls hw hS hl => ?_)
  refine sgA_2 S hE hst hlo hw hS hl (fun ad H3 locs ls hw hS hl => ?_)
  refine sgA_3 S hE hst hlo hw hS hl (fun ad H3 locs ls hw hS hl => ?_)
  refine sgA_4 S hE hst hlo hw hS hl (fun ad H3 locs ls hw hS hl => ?_)
  refine va_forget (fun q hq => hS.2.2 q hq) ?_
  have hS9 : va_S kNo s.heap H3 [] := ⟨hS.1, fun q h1 _ => hS.2.1 q h1 (fun h => absurd h1 (Nat.not_lt.mpr h)), fun _ h => by cases h⟩
  refine lv_iconst (v := 1) hx hb dL_alarm_777 (by decide) ?_
  refine lv_goto (tgt := 782) hx hb dL_alarm_778 (by decide) ?_
  refine kend_z S hr hlocks hS9 rfl (Or.inr rfl) dL_alarm_782
