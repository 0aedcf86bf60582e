/-! ===== a run by hand: cut ===== -/
section KRUNC
variable {p : Program} {l : Launch} {e : Env} {s : State} {m : MethodId} {args : Array Value} {below : List Frame} {meth : Method} {c : Code} {H : Heap} {locs : List Loc} {Q : State → Prop} {ls : Array Slot} {ε : kEnv} {ad : Nat → Nat → Nat}
set_option maxHeartbeats 8000000 in
set_option maxRecDepth 100000 in
theorem sgC_0 (S : CallFix p m c cL_cut 1 s args wsL_cut RL) (hE : kE ε s) (hst : l.stackTraces = false) (hlo : ε.2.2.1 ≤ s.heap.size) (hw : kW ε (kGe s.heap.size) ad sC_0 H) (hS : va_S (kGe s.heap.size) s.heap H locs) (hl : lv_has ls 1 [(0, .ref (ad 0 0))])
    (KK : ∀ (ad' : Nat → Nat → Nat) (H' : Heap) (locs' : List Loc) (ls' : Array Slot), kW ε (kGe s.heap.size) ad' sC_10 H' → va_S (kGe s.heap.size) s.heap H' locs' → lv_has ls' 1 [(0, .ref (ad' 0 0))] → W p l e ({ frames := 13, cells := 153, slots := 917, locals := 420 }) s m args below meth c H' locs' 18 113 Q (F0 m 208 ls' [])) : W p l e ({ frames := 13, cells := 153, slots := 917, locals := 420 }) s m args below meth c H locs 5 19 Q (F0 m 8 ls []) := by
  have hx := S.1
  have hb := S.2.1
  have hown : s.vm.findClass RL = some m.cls := S.2.2.2.1
  have hts := S.2.2.2.2
  have hK := hE.1
  have hAb : ∀ q, kGe s.heap.size q → kHi ε q := fun q h => Nat.le_trans hlo h
  have hA2 : ∀ q, H.size ≤ q → kGe s.heap.size q := fun q h => Nat.le_trans hS.1 h
  refine lv_aload_n hx hb dL_cut_8 rfl (lv_at hl 0 rfl) ?_
  refine lv_iconst (v := -1) hx hb dL_cut_9 (by decide) ?_
  refine kgo_i (kc_V (As := [.int (-1)]) (rest := []) S hE hS hAb (cp_addRegion0 ε l hAb hw bC_0 (by decide +kernel) zC_0 hA2) (cwV 1 hts gL_cut_X4_addRegion rfl rfl rfl (by decide +kernel) ⟨Nat.le_of_ble_eq_true rfl, Nat.le_of_ble_eq_true rfl⟩) (hw.lv 0 0 (rfl : (0 : Nat) = 0)) rfl rfl hl.1 rfl (Nat.le_of_ble_eq_true rfl) dL_cut_10 ⟨by decide +kernel, by decide +kernel⟩) hS (fun _ h => h) (fun r9 H1 locs hp hz1 hq hS => ?_)
  obtain ⟨e9, ad, ea, hw⟩ := hp
  have hl : lv_has ls 1 [(0, .ref (ad 0 0))] := by rw [ea]; exact hl
  clear ea
  have hw : kW ε (kGe s.heap.size) ad sC_1 H1 := hw
  clear hz1 hq
  refine W.widen (k := 7) (n := 33) (by decide +kernel) (by decide +kernel) ?_
  refine kr_top (y := 0) (e9.trans (by decide +kernel)) ?_
  have hA2 : ∀ q, H1.size ≤ q → kGe s.heap.size q := fun q h => Nat.le_trans hS.1 h
  refine lv_if_ne (tgt := 206) hx hb dL_cut_13 (by decide) (fun hc => absurd (by decide) hc) (fun _ => ?_)
  refine lv_aload_n hx hb dL_cut_16 rfl (lv_at hl 0 rfl) ?_
  refine lv_iconst (v := -1) hx hb dL_cut_17 (by decide) ?_
  refine kgo_i (kc_V (As := [.int (-1)]) (rest := []) S hE hS hAb (cp_addRegion0 ε l hAb hw bC_1 (by decide +kernel) zC_1 hA2) (cwV 1 hts gL_cut_X4_addRegion rfl rfl rfl (by decide +kernel) ⟨Nat.le_of_ble_eq_true rfl, Nat.le_of_ble_eq_true rfl⟩) (hw.lv 0 0 (rfl : (0 : Nat) = 0)) rfl rfl hl.1 rfl (Nat.le_of_ble_eq_true rfl) dL_cut_18 ⟨by decide +kernel, by decide +kernel⟩) hS (fun _ h => h) (fun r9 H1 locs hp hz1 hq hS => ?_)
  obtain ⟨e9, ad, ea, hw⟩ := hp
  have hl : lv_has ls 1 [(0, .ref (ad 0 0))] := by rw [ea]; exact hl
  clear ea
  have hw : kW ε (kGe s.heap.size) ad sC_2 H1 := hw
  clear hz1 hq
  refine W.widen (k := 8) (n := 37) (by decide +kernel) (by decide +kernel) ?_
  refine kr_top (y := 1) (e9.trans (by decide +kernel)) ?_
  have hA2 : ∀ q, H1.size ≤ q → kGe s.heap.size q := fun q h => Nat.le_trans hS.1 h
  refine lv_iconst (v := 1) hx hb dL_cut_21 (by decide) ?_
  refine lv_icmp_ne (tgt := 206) hx hb dL_cut_22 (by decide) (fun hc => absurd (by decide) hc) (fun _ => ?_)
  refine lv_aload_n hx hb dL_cut_25 rfl (lv_at hl 0 rfl) ?_
  refine lv_iconst (v := 1) hx hb dL_cut_26 (by decide) ?_
  refine kgo_i (kc_V (As := [.int (nI 1)]) (rest := []) S hE hS hAb (cp_addRegionS ε l hAb hw bC_2 (r := 1) (by decide +kernel) (by decide +kernel) zC_2 hA2) (cwV 1 hts gL_cut_X4_addRegion rfl rfl rfl (by decide +kernel) ⟨Nat.le_of_ble_eq_true rfl, Nat.le_of_ble_eq_true rfl⟩) (hw.lv 0 0 (rfl : (0 : Nat) = 0)) rfl rfl hl.1 rfl (Nat.le_of_ble_eq_true rfl) dL_cut_27 ⟨by decide +kernel, by decide +kernel⟩) hS (fun _ h => h) (fun r9 H1 locs hp hz1 hq hS => ?_)
  obtain ⟨e9, ad, ea, hw⟩ := hp
  have hl : lv_has ls 1 [(0, .ref (ad 0 0))] := by rw [ea]; exact hl
  clear ea
  have hw : kW ε (kGe s.heap.size) ad sC_3 H1 := hw
  clear hz1 hq
  refine W.widen (k := 9) (n := 41) (by decide +kernel) (by decide +kernel) ?_
  refine kr_top (y := 2) (e9.trans (by decide +kernel)) ?_
  have hA2 : ∀ q, H1.size ≤ q → kGe s.heap.size q := fun q h => Nat.le_trans hS.1 h
  refine lv_iconst (v := 2) hx hb dL_cut_30 (by decide) ?_
  refine lv_icmp_ne (tgt := 206) hx hb dL_cut_31 (by decide) (fun hc => absurd (by decide) hc) (fun _ => ?_)
  refine lv_aload_n hx hb dL_cut_34 rfl (lv_at hl 0 rfl) ?_
  refine lv_iconst (v := 1) hx hb dL_cut_35 (by decide) ?_
  refine lv_iconst (v := 0) hx hb dL_cut_36 (by decide) ?_
  refine lv_iconst (v := 0) hx hb dL_cut_37 (by decide) ?_
  refine lv_iconst (v := 2) hx hb dL_cut_38 (by decide) ?_
  refine kgo_i (kc_V (As := [.int (nI 1), .int (nI 0), .int (nI 0), .int (nI 2)]) (rest := []) S hE hS hAb (cp_addCheck ε l hAb hw bC_3 (t1 := 1) (t2 := 0) (t3 := 0) (t4 := 2) (by decide +kernel) (by decide +kernel) (by decide +kernel) (by decide +kernel) (by decide +kernel) (by decide +kernel) (by decide +kernel) zC_3 hA2) (cwV 4 hts gL_cut_X4_addCheck rfl rfl rfl (by decide +kernel) ⟨Nat.le_of_ble_eq_true rfl, Nat.le_of_ble_eq_true rfl⟩) (hw.lv 0 0 (rfl : (0 : Nat) = 0)) rfl rfl hl.1 rfl (Nat.le_of_ble_eq_true rfl) dL_cut_39 ⟨by decide +kernel, by decide +kernel⟩) hS (fun _ h => h) (fun r9 H1 locs hp hz1 hq hS => ?_)
  obtain ⟨e9, ad, ea, hw⟩ := hp
  have hl : lv_has ls 1 [(0, .ref (ad 0 0))] := by rw [ea]; exact hl
  clear ea
  have hw : kW ε (kGe s.heap.size) ad sC_4 H1 := hw
  clear hz1 hq
  refine W.widen (k := 14) (n := 82) (by decide +kernel) (by decide +kernel) ?_
  refine kr_top (y := 0) (e9.trans (by decide +kernel)) ?_
  have hA2 : ∀ q, H1.size ≤ q → kGe s.heap.size q := fun q h => Nat.le_trans hS.1 h
  refine lv_if_ne (tgt := 206) hx hb dL_cut_42 (by decide) (fun hc => absurd (by decide) hc) (fun _ => ?_)
  refine lv_aload_n hx hb dL_cut_45 rfl (lv_at hl 0 rfl) ?_
  refine lv_iconst (v := 1) hx hb dL_cut_46 (by decide) ?_
  refine lv_iconst (v := 0) hx hb dL_cut_47 (by decide) ?_
  refine lv_iconst (v := 0) hx hb dL_cut_48 (by decide) ?_
  refine lv_iconst (v := 2) hx hb dL_cut_49 (by decide) ?_
  refine kgo_i (kc_V (As := [.int (nI 1), .int (nI 0), .int (nI 0), .int (nI 2)]) (rest := []) S hE hS hAb (cp_addCheck ε l hAb hw bC_4 (t1 := 1) (t2 := 0) (t3 := 0) (t4 := 2) (by decide +kernel) (by decide +kernel) (by decide +kernel) (by decide +kernel) (by decide +kernel) (by decide +kernel) (by decide +kernel) zC_4 hA2) (cwV 4 hts gL_cut_X4_addCheck rfl rfl rfl (by decide +kernel) ⟨Nat.le_of_ble_eq_true rfl, Nat.le_of_ble_eq_true rfl⟩) (hw.lv 0 0 (rfl : (0 : Nat) = 0)) rfl rfl hl.1 rfl (Nat.le_of_ble_eq_true rfl) dL_cut_50 ⟨by decide +kernel, by decide +kernel⟩) hS (fun _ h => h) (fun r9 H1 locs hp hz1 hq hS => ?_)
  obtain ⟨e9, ad, ea, hw⟩ := hp
  have hl : lv_has ls 1 [(0, .ref (ad 0 0))] := by rw [ea]; exact hl
  clear ea
  have hw : kW ε (kGe s.heap.size) ad sC_5 H1 := hw
  clear hz1 hq
  refine W.widen (k := 18) (n := 113) (by decide +kernel) (by decide +kernel) ?_
  refine kr_top (y := 1) (e9.trans (by decide +kernel)) ?_
  have hA2 : ∀ q, H1.size ≤ q → kGe s.heap.size q := fun q h => Nat.le_trans hS.1 h
  refine lv_iconst (v := 1) hx hb dL_cut_53 (by decide) ?_
  refine lv_icmp_ne (tgt := 206) hx hb dL_cut_54 (by decide) (fun hc => absurd (by decide) hc) (fun _ => ?_)
  refine lv_aload_n hx hb dL_cut_57 rfl (lv_at hl 0 rfl) ?_
  refine lv_iconst (v := 1) hx hb dL_cut_58 (by decide) ?_
  refine kgo_i (kc_V (As := [.int (nI 1)]) (rest := []) S hE hS hAb (cc_pass0 ε l (x0 := ad 0 0) (t := 1) hAb hw bC_5 rfl (by decide +kernel) (by decide +kernel) (by decide +kernel) hA2 (by decide +kernel)) (cwV 1 hts gL_cut_X4_pass rfl rfl rfl (by decide +kernel) ⟨Nat.le_of_ble_eq_true rfl, Nat.le_of_ble_eq_true rfl⟩) (hw.lv 0 0 (rfl : (0 : Nat) = 0)) rfl rfl hl.1 rfl (Nat.le_of_ble_eq_true rfl) dL_cut_59 ⟨by decide +kernel, by decide +kernel⟩) hS (fun _ h => h) (fun r9 H1 locs hp hz1 hq hS => ?_)
  obtain ⟨e9, ad, ea, hw⟩ := hp
  have hl : lv_has ls 1 [(0, .ref (ad 0 0))] := by rw [ea]; exact hl
  clear ea
  have hw : kW ε (kGe s.heap.size) ad sC_6 H1 := hw
  clear hz1 hq
  refine W.widen (k := 18) (n := 113) (by decide +kernel) (by decide +kernel) ?_
  refine kr_top (y := 0) (e9.trans (by decide +kernel)) ?_
  have hA2 : ∀ q, H1.size ≤ q → kGe s.heap.size q := fun q h => Nat.le_trans hS.1 h
  refine lv_if_ne (tgt := 206) hx hb dL_cut_62 (by decide) (fun hc => absurd (by decide) hc) (fun _ => ?_)
  refine lv_aload_n hx hb dL_cut_65 rfl (lv_at hl 0 rfl) ?_
  refine lv_iconst (v := 0) hx hb dL_cut_66 (by decide) ?_
  refine kgo_pi (v := nI (kTrm sC_6 0 (sC_6 1 0))) (kc_V (As := [.int (nI 0)]) (rest := []) S hE hS hAb (cp_trusted ε l hw bC_6 (i := 0) (by decide +kernel)) (cwV 1 hts gL_cut_X4_trusted rfl rfl rfl (by decide +kernel) ⟨Nat.le_of_ble_eq_true rfl, Nat.le_of_ble_eq_true rfl⟩) (hw.lv 0 0 (rfl : (0 : Nat) = 0)) rfl rfl hl.1 rfl (Nat.le_of_ble_eq_true rfl) dL_cut_67 ⟨by decide +kernel, by decide +kernel⟩) hS (fun locs hS => ?_)
  refine kr_top (y := 3) (by decide +kernel) ?_
  refine lv_iconst (v := 3) hx hb dL_cut_70 (by decide) ?_
  refine lv_icmp_ne (tgt := 206) hx hb dL_cut_71 (by decide) (fun hc => absurd (by decide) hc) (fun _ => ?_)
  refine lv_aload_n hx hb dL_cut_74 rfl (lv_at hl 0 rfl) ?_
  refine lv_iconst (v := 0) hx hb dL_cut_75 (by decide) ?_
  refine kgo_pi (v := nI (sC_6 24 0)) (kc_V (As := [.int (nI 0)]) (rest := []) S hE hS hAb (cp_verdict ε l hw bC_6 (i := 0) (by decide +kernel)) (cwV 1 hts gL_cut_X4_verdict rfl rfl rfl (by decide +kernel) ⟨Nat.le_of_ble_eq_true rfl, Nat.le_of_ble_eq_true rfl⟩) (hw.lv 0 0 (rfl : (0 : Nat) = 0)) rfl rfl hl.1 rfl (Nat.le_of_ble_eq_true rfl) dL_cut_76 ⟨by decide +kernel, by decide +kernel⟩) hS (fun locs hS => ?_)
  refine kr_top (y := 1) (by decide +kernel) ?_
  refine lv_iconst (v := 1) hx hb dL_cut_79 (by decide) ?_
  refine lv_icmp_ne (tgt := 206) hx hb dL_cut_80 (by decide) (fun hc => absurd (by decide) hc) (fun _ => ?_)
  refine lv_aload_n hx hb dL_cut_83 rfl (lv_at hl 0 rfl) ?_
  refine lv_iconst (v := 1) hx hb dL_cut_84 (by decide) ?_
  refine kgo_i (kc_V (As := [.int (nI 1)]) (rest := []) S hE hS hAb (cc_pass0 ε l (x0 := ad 0 0) (t := 1) hAb hw bC_6 rfl (by decide +kernel) (by decide +kernel) (by decide +kernel) hA2 (by decide +kernel)) (cwV 1 hts gL_cut_X4_pass rfl rfl rfl (by decide +kernel) ⟨Nat.le_of_ble_eq_true rfl, Nat.le_of_ble_eq_true rfl⟩) (hw.lv 0 0 (rfl : (0 : Nat) = 0)) rfl rfl hl.1 rfl (Nat.le_of_ble_eq_true rfl) dL_cut_85 ⟨by decide +kernel, by decide +kernel⟩) hS (fun _ h => h) (fun r9 H1 locs hp hz1 hq hS => ?_)
  obtain ⟨e9, ad, ea, hw⟩ := hp
  have hl : lv_has ls 1 [(0, .ref (ad 0 0))] := by rw [ea]; exact hl
  clear ea
  have hw : kW ε (kGe s.heap.size) ad sC_7 H1 := hw
  clear hz1 hq
  refine W.widen (k := 18) (n := 113) (by decide +kernel) (by decide +kernel) ?_
  refine kr_top (y := 0) (e9.trans (by decide +kernel)) ?_
  have hA2 : ∀ q, H1.size ≤ q → kGe s.heap.size q := fun q h => Nat.le_trans hS.1 h
  refine lv_if_ne (tgt := 206) hx hb dL_cut_88 (by decide) (fun hc => absurd (by decide) hc) (fun _ => ?_)
  refine lv_aload_n hx hb dL_cut_91 rfl (lv_at hl 0 rfl) ?_
  refine lv_iconst (v := 0) hx hb dL_cut_92 (by decide) ?_
  refine kgo_pi (v := nI (kTrm sC_7 0 (sC_7 1 0))) (kc_V (As := [.int (nI 0)]) (rest := []) S hE hS hAb (cp_trusted ε l hw bC_7 (i := 0) (by decide +kernel)) (cwV 1 hts gL_cut_X4_trusted rfl rfl rfl (by decide +kernel) ⟨Nat.le_of_ble_eq_true rfl, Nat.le_of_ble_eq_true rfl⟩) (hw.lv 0 0 (rfl : (0 : Nat) = 0)) rfl rfl hl.1 rfl (Nat.le_of_ble_eq_true rfl) dL_cut_93 ⟨by decide +kernel, by decide +kernel⟩) hS (fun locs hS => ?_)
  refine kr_top (y := 7) (by decide +kernel) ?_
  refine lv_bipush (v := 7) hx hb dL_cut_96 (by decide) ?_
  refine lv_icmp_ne (tgt := 206) hx hb dL_cut_98 (by decide) (fun hc => absurd (by decide) hc) (fun _ => ?_)
  refine lv_aload_n hx hb dL_cut_101 rfl (lv_at hl 0 rfl) ?_
  refine lv_iconst (v := 1) hx hb dL_cut_102 (by decide) ?_
  refine lv_iconst (v := 1) hx hb dL_cut_103 (by decide) ?_
  refine kgo_i (kc_V (As := [.int (nI 1), .int (bI true)]) (rest := []) S hE hS hAb (cp_setCut ε l hAb hw bC_7 (r := 1) (b := true) (by decide +kernel)) (cwV 2 hts gL_cut_X4_setCut rfl rfl rfl (by decide +kernel) ⟨Nat.le_of_ble_eq_true rfl, Nat.le_of_ble_eq_true rfl⟩) (hw.lv 0 0 (rfl : (0 : Nat) = 0)) rfl rfl hl.1 rfl (Nat.le_of_ble_eq_true rfl) dL_cut_104 ⟨by decide +kernel, by decide +kernel⟩) hS (fun _ h => h) (fun r9 H1 locs hp hz1 hq hS => ?_)
  obtain ⟨e9, hw⟩ := hp
  have hw : kW ε (kGe s.heap.size) ad sC_8 H1 := hw
  clear hz1 hq
  refine W.widen (k := 18) (n := 113) (by decide +kernel) (by decide +kernel) ?_
  refine kr_top (y := 0) (e9.trans (by decide +kernel)) ?_
  have hA2 : ∀ q, H1.size ≤ q → kGe s.heap.size q := fun q h => Nat.le_trans hS.1 h
  refine lv_if_ne (tgt := 206) hx hb dL_cut_107 (by decide) (fun hc => absurd (by decide) hc) (fun _ => ?_)
  refine lv_aload_n hx hb dL_cut_110 rfl (lv_at hl 0 rfl) ?_
  refine lv_iconst (v := 1) hx hb dL_cut_111 (by decide) ?_
  refine lv_iconst (v := 1) hx hb dL_cut_112 (by decide) ?_
  refine kgo_i (kc_V (As := [.int (nI 1), .int (bI true)]) (rest := []) S hE hS hAb (cp_setCut ε l hAb hw bC_8 (r := 1) (b := true) (by decide +kernel)) (cwV 2 hts gL_cut_X4_setCut rfl rfl rfl (by decide +kernel) ⟨Nat.le_of_ble_eq_true rfl, Nat.le_of_ble_eq_true rfl⟩) (hw.lv 0 0 (rfl : (0 : Nat) = 0)) rfl rfl hl.1 rfl (Nat.le_of_ble_eq_true rfl) dL_cut_113 ⟨by decide +kernel, by decide +kernel⟩) hS (fun _ h => h) (fun r9 H1 locs hp hz1 hq hS => ?_)
  obtain ⟨e9, hw⟩ := hp
  have hw : kW ε (kGe s.heap.size) ad sC_9 H1 := hw
  clear hz1 hq
  refine W.widen (k := 18) (n := 113) (by decide +kernel) (by decide +kernel) ?_
  refine kr_top (y := 1) (e9.trans (by decide +kernel)) ?_
  have hA2 : ∀ q, H1.size ≤ q → kGe s.heap.size q := fun q h => Nat.le_trans hS.1 h
  refine lv_if_eq (tgt := 206) hx hb dL_cut_116 (by decide) (fun hc => absurd hc (by decide)) (fun _ => ?_)
  refine lv_aload_n hx hb dL_cut_119 rfl (lv_at hl 0 rfl) ?_
  refine lv_iconst (v := 0) hx hb dL_cut_120 (by decide) ?_
  refine kgo_pi (v := nI (kFm sC_9 0 (sC_9 1 0))) (kc_V (As := [.int (nI 0)]) (rest := []) S hE hS hAb (cp_failing ε l hw bC_9 (i := 0) (by decide +kernel)) (cwV 1 hts gL_cut_X4_failing rfl rfl rfl (by decide +kernel) ⟨Nat.le_of_ble_eq_true rfl, Nat.le_of_ble_eq_true rfl⟩) (hw.lv 0 0 (rfl : (0 : Nat) = 0)) rfl rfl hl.1 rfl (Nat.le_of_ble_eq_true rfl) dL_cut_121 ⟨by decide +kernel, by decide +kernel⟩) hS (fun locs hS => ?_)
  refine kr_top (y := 6) (by decide +kernel) ?_
  refine lv_bipush (v := 6) hx hb dL_cut_124 (by decide) ?_
  refine lv_icmp_ne (tgt := 206) hx hb dL_cut_126 (by decide) (fun hc => absurd (by decide) hc) (fun _ => ?_)
  refine lv_aload_n hx hb dL_cut_129 rfl (lv_at hl 0 rfl) ?_
  refine lv_iconst (v := 1) hx hb dL_cut_130 (by decide) ?_
  refine kgo_i (kc_V (As := [.int (nI 1)]) (rest := []) S hE hS hAb (cc_pass0 ε l (x0 := ad 0 0) (t := 1) hAb hw bC_9 rfl (by decide +kernel) (by decide +kernel) (by decide +kernel) hA2 (by decide +kernel)) (cwV 1 hts gL_cut_X4_pass rfl rfl rfl (by decide +kernel) ⟨Nat.le_of_ble_eq_true rfl, Nat.le_of_ble_eq_true rfl⟩) (hw.lv 0 0 (rfl : (0 : Nat) = 0)) rfl rfl hl.1 rfl (Nat.le_of_ble_eq_true rfl) dL_cut_131 ⟨by decide +kernel, by decide +kernel⟩) hS (fun _ h => h) (fun r9 H1 locs hp hz1 hq hS => ?_)
  obtain ⟨e9, ad, ea, hw⟩ := hp
  have hl : lv_has ls 1 [(0, .ref (ad 0 0))] := by rw [ea]; exact hl
  clear ea
  have hw : kW ε (kGe s.heap.size) ad sC_10 H1 := hw
  clear hz1 hq
  refine W.widen (k := 18) (n := 113) (by decide +kernel) (by decide +kernel) ?_
  refine kr_top (y := 0) (e9.trans (by decide +kernel)) ?_
  have hA2 : ∀ q, H1.size ≤ q → kGe s.heap.size q := fun q h => Nat.le_trans hS.1 h
  refine lv_if_ne (tgt := 206) hx hb dL_cut_134 (by decide) (fun hc => absurd (by decide) hc) (fun _ => ?_)
  refine lv_aload_n hx hb dL_cut_137 rfl (lv_at hl 0 rfl) ?_
  refine lv_iconst (v := 1) hx hb dL_cut_138 (by decide) ?_
  refine kgo_pi (v := bI ((sC_10 15 0).testBit 1)) (kc_V (As := [.int (nI 1)]) (rest := []) S hE hS hAb (cp_isBad ε l hw bC_10 (i := 1) (by decide +kernel)) (cwV 1 hts gL_cut_X4_isBad rfl rfl rfl (by decide +kernel) ⟨Nat.le_of_ble_eq_true rfl, Nat.le_of_ble_eq_true rfl⟩) (hw.lv 0 0 (rfl : (0 : Nat) = 0)) rfl rfl hl.1 rfl (Nat.le_of_ble_eq_true rfl) dL_cut_139 ⟨by decide +kernel, by decide +kernel⟩) hS (fun locs hS => ?_)
  refine kr_top (y := 1) (by decide +kernel) ?_
  refine lv_if_eq (tgt := 206) hx hb dL_cut_142 (by decide) (fun hc => absurd hc (by decide)) (fun _ => ?_)
  refine lv_aload_n hx hb dL_cut_145 rfl (lv_at hl 0 rfl) ?_
  refine lv_iconst (v := 2) hx hb dL_cut_146 (by decide) ?_
  refine kgo_pi (v := bI ((sC_10 15 0).testBit 2)) (kc_V (As := [.int (nI 2)]) (rest := []) S hE hS hAb (cp_isBad ε l hw bC_10 (i := 2) (by decide +kernel)) (cwV 1 hts gL_cut_X4_isBad rfl rfl rfl (by decide +kernel) ⟨Nat.le_of_ble_eq_true rfl, Nat.le_of_ble_eq_true rfl⟩) (hw.lv 0 0 (rfl : (0 : Nat) = 0)) rfl rfl hl.1 rfl (Nat.le_of_ble_eq_true rfl) dL_cut_147 ⟨by decide +kernel, by decide +kernel⟩) hS (fun locs hS => ?_)
  refine kr_top (y := 1) (by decide +kernel) ?_
  refine lv_if_eq (tgt := 206) hx hb dL_cut_150 (by decide) (fun hc => absurd hc (by decide)) (fun _ => ?_)
  refine lv_aload_n hx hb dL_cut_153 rfl (lv_at hl 0 rfl) ?_
  refine lv_iconst (v := 0) hx hb dL_cut_154 (by decide) ?_
  refine kgo_pi (v := bI ((sC_10 15 0).testBit 0)) (kc_V (As := [.int (nI 0)]) (rest := []) S hE hS hAb (cp_isBad ε l hw bC_10 (i := 0) (by decide +kernel)) (cwV 1 hts gL_cut_X4_isBad rfl rfl rfl (by decide +kernel) ⟨Nat.le_of_ble_eq_true rfl, Nat.le_of_ble_eq_true rfl⟩) (hw.lv 0 0 (rfl : (0 : Nat) = 0)) rfl rfl hl.1 rfl (Nat.le_of_ble_eq_true rfl) dL_cut_155 ⟨by decide +kernel, by decide +kernel⟩) hS (fun locs hS => ?_)
  refine kr_top (y := 0) (by decide +kernel) ?_
  refine lv_if_ne (tgt := 206) hx hb dL_cut_158 (by decide) (fun hc => absurd (by decide) hc) (fun _ => ?_)
  refine lv_aload_n hx hb dL_cut_161 rfl (lv_at hl 0 rfl) ?_
  refine lv_iconst (v := 0) hx hb dL_cut_162 (by decide) ?_
  refine lv_iconst (v := 2) hx hb dL_cut_163 (by decide) ?_
  refine kgo_pi (v := nI (sC_10 31 (6 * 0 + 2))) (kc_V (As := [.int (nI 0), .int (nI 2)]) (rest := []) S hE hS hAb (cp_vote ε l hw bC_10 (i := 0) (r := 2) (by decide +kernel) (by decide +kernel)) (cwV 2 hts gL_cut_X4_vote rfl rfl rfl (by decide +kernel) ⟨Nat.le_of_ble_eq_true rfl, Nat.le_of_ble_eq_true rfl⟩) (hw.lv 0 0 (rfl : (0 : Nat) = 0)) rfl rfl hl.1 rfl (Nat.le_of_ble_eq_true rfl) dL_cut_164 ⟨by decide +kernel, by decide +kernel⟩) hS (fun locs hS => ?_)
  refine kr_top (y := 2) (by decide +kernel) ?_
  refine lv_iconst (v := 2) hx hb dL_cut_167 (by decide) ?_
  refine lv_icmp_ne (tgt := 206) hx hb dL_cut_168 (by decide) (fun hc => absurd (by decide) hc) (fun _ => ?_)
  refine lv_aload_n hx hb dL_cut_171 rfl (lv_at hl 0 rfl) ?_
  refine lv_iconst (v := 0) hx hb dL_cut_172 (by decide) ?_
  refine kgo_pi (v := nI (sC_10 24 0)) (kc_V (As := [.int (nI 0)]) (rest := []) S hE hS hAb (cp_verdict ε l hw bC_10 (i := 0) (by decide +kernel)) (cwV 1 hts gL_cut_X4_verdict rfl rfl rfl (by decide +kernel) ⟨Nat.le_of_ble_eq_true rfl, Nat.le_of_ble_eq_true rfl⟩) (hw.lv 0 0 (rfl : (0 : Nat) = 0)) rfl rfl hl.1 rfl (Nat.le_of_ble_eq_true rfl) dL_cut_173 ⟨by decide +kernel, by decide +kernel⟩) hS (fun locs hS => ?_)
  refine kr_top (y := 0) (by decide +kernel) ?_
  refine lv_if_ne (tgt := 206) hx hb dL_cut_176 (by decide) (fun hc => absurd (by decide) hc) (fun _ => ?_)
  refine lv_aload_n hx hb dL_cut_179 rfl (lv_at hl 0 rfl) ?_
  refine lv_iconst (v := 1) hx hb dL_cut_180 (by decide) ?_
  refine kgo_pi (v := nI (sC_10 24 1)) (kc_V (As := [.int (nI 1)]) (rest := []) S hE hS hAb (cp_verdict ε l hw bC_10 (i := 1) (by decide +kernel)) (cwV 1 hts gL_cut_X4_verdict rfl rfl rfl (by decide +kernel) ⟨Nat.le_of_ble_eq_true rfl, Nat.le_of_ble_eq_true rfl⟩) (hw.lv 0 0 (rfl : (0 : Nat) = 0)) rfl rfl hl.1 rfl (Nat.le_of_ble_eq_true rfl) dL_cut_181 ⟨by decide +kernel, by decide +kernel⟩) hS (fun locs hS => ?_)
  refine kr_top (y := 0) (by decide +kernel) ?_
  refine lv_if_ne (tgt := 206) hx hb dL_cut_184 (by decide) (fun hc => absurd (by decide) hc) (fun _ => ?_)
  refine lv_aload_n hx hb dL_cut_187 rfl (lv_at hl 0 rfl) ?_
  refine lv_iconst (v := 0) hx hb dL_cut_188 (by decide) ?_
  refine kgo_pi (v := nI (kTrm sC_10 0 (sC_10 1 0))) (kc_V (As := [.int (nI 0)]) (rest := []) S hE hS hAb (cp_trusted ε l hw bC_10 (i := 0) (by decide +kernel)) (cwV 1 hts gL_cut_X4_trusted rfl rfl rfl (by decide +kernel) ⟨Nat.le_of_ble_eq_true rfl, Nat.le_of_ble_eq_true rfl⟩) (hw.lv 0 0 (rfl : (0 : Nat) = 0)) rfl rfl hl.1 rfl (Nat.le_of_ble_eq_true rfl) dL_cut_189 ⟨by decide +kernel, by decide +kernel⟩) hS (fun locs hS => ?_)
  refine kr_top (y := 1) (by decide +kernel) ?_
  refine lv_iconst (v := 1) hx hb dL_cut_192 (by decide) ?_
  refine lv_icmp_ne (tgt := 206) hx hb dL_cut_193 (by decide) (fun hc => absurd (by decide) hc) (fun _ => ?_)
  refine lv_aload_n hx hb dL_cut_196 rfl (lv_at hl 0 rfl) ?_
  refine lv_iconst (v := 0) hx hb dL_cut_197 (by decide) ?_
  refine kgo_pf (v := FP.fdiv (FP.i2f (nI (sC_10 26 0))) (FP.i2f (nI (sC_10 27 0)))) (kc_V (As := [.int (nI 0)]) (rest := []) S hE hS hAb (cp_availability ε l hw bC_10 (i := 0) (by decide +kernel) (by decide +kernel) (by decide +kernel) (by unfold vf_n32; decide +kernel)) (cwV 1 hts gL_cut_X4_availability rfl rfl rfl (by decide +kernel) ⟨Nat.le_of_ble_eq_true rfl, Nat.le_of_ble_eq_true rfl⟩) (hw.lv 0 0 (rfl : (0 : Nat) = 0)) rfl rfl hl.1 rfl (Nat.le_of_ble_eq_true rfl) dL_cut_198 ⟨by decide +kernel, by decide +kernel⟩) hS (fun locs hS => ?_)
  refine lv_fconst1 hx hb dL_cut_201 ?_
  refine lv_fcmp hx hb dL_cut_202 ?_
  refine kr_top (y := 0) (by decide +kernel) ?_
  refine lv_if_eq (tgt := 208) hx hb dL_cut_203 (by decide) (fun _ => ?_) (fun hc => absurd (by decide) hc)
  exact KK _ _ _ _ hw hS hl
set_option maxHeartbeats 8000000 in
set_option maxRecDepth 100000 in
theorem sgC_1 (S : CallFix p m c cL_cut 1 s args wsL_cut RL) (hE : kE ε s) (hst : l.stackTraces = false) (hlo : ε.2.2.1 ≤ s.heap.size) (hw : kW ε (kGe s.heap.size) ad sC_10 H) (hS : va_S (kGe s.heap.size) s.heap H locs) (hl : lv_has ls 1 [(0, .ref (ad 0 0))])
    (KK : ∀ (ad' : Nat → Nat → Nat) (H' : Heap) (locs' : List Loc) (ls' : Array Slot), kW ε (kGe s.heap.size) ad' sC_22 H' → va_S (kGe s.heap.size) s.heap H' locs' → lv_has ls' 1 [(0, .ref (ad' 0 0))] → W p l e ({ frames := 13, cells := 153, slots := 917, locals := 420 }) s m args below meth c H' locs' 152 913 Q (F0 m 397 ls' [])) : W p l e ({ frames := 13, cells := 153, slots := 917, locals := 420 }) s m args below meth c H locs 18 113 Q (F0 m 208 ls []) := by
  have hx := S.1
  have hb := S.2.1
  have hown : s.vm.findClass RL = some m.cls := S.2.2.2.1
  have hts := S.2.2.2.2
  have hK := hE.1
  have hAb : ∀ q, kGe s.heap.size q → kHi ε q := fun q h => Nat.le_trans hlo h
  have hA2 : ∀ q, H.size ≤ q → kGe s.heap.size q := fun q h => Nat.le_trans hS.1 h
  refine lv_aload_n hx hb dL_cut_208 rfl (lv_at hl 0 rfl) ?_
  refine lv_iconst (v := 0) hx hb dL_cut_209 (by decide) ?_
  refine lv_iconst (v := 1) hx hb dL_cut_210 (by decide) ?_
  refine kgo_i (kc_V (As := [.int (nI 0), .int (nI 1)]) (rest := []) S hE hS hAb (cp_setQuorum ε l hAb hw bC_10 (i := 0) (t := 1) (by decide +kernel) (by decide +kernel) (by decide +kernel)) (cwV 2 hts gL_cut_X4_setQuorum rfl rfl rfl (by decide +kernel) ⟨Nat.le_of_ble_eq_true rfl, Nat.le_of_ble_eq_true rfl⟩) (hw.lv 0 0 (rfl : (0 : Nat) = 0)) rfl rfl hl.1 rfl (Nat.le_of_ble_eq_true rfl) dL_cut_211 ⟨by decide +kernel, by decide +kernel⟩) hS (fun _ h => h) (fun r9 H1 locs hp hz1 hq hS => ?_)
  obtain ⟨e9, hw⟩ := hp
  have hw : kW ε (kGe s.heap.size) ad sC_11 H1 := hw
  clear hz1 hq
  refine W.widen (k := 18) (n := 113) (by decide +kernel) (by decide +kernel) ?_
  refine kr_top (y := 2) (e9.trans (by decide +kernel)) ?_
  have hA2 : ∀ q, H1.size ≤ q → kGe s.heap.size q := fun q h => Nat.le_trans hS.1 h
  refine lv_iconst (v := 2) hx hb dL_cut_214 (by decide) ?_
  refine lv_icmp_ne (tgt := 395) hx hb dL_cut_215 (by decide) (fun hc => absurd (by decide) hc) (fun _ => ?_)
  refine lv_aload_n hx hb dL_cut_218 rfl (lv_at hl 0 rfl) ?_
  refine lv_iconst (v := 0) hx hb dL_cut_219 (by decide) ?_
  refine kgo_pi (v := nI (sC_11 24 0)) (kc_V (As := [.int (nI 0)]) (rest := []) S hE hS hAb (cp_verdict ε l hw bC_11 (i := 0) (by decide +kernel)) (cwV 1 hts gL_cut_X4_verdict rfl rfl rfl (by decide +kernel) ⟨Nat.le_of_ble_eq_true rfl, Nat.le_of_ble_eq_true rfl⟩) (hw.lv 0 0 (rfl : (0 : Nat) = 0)) rfl rfl hl.1 rfl (Nat.le_of_ble_eq_true rfl) dL_cut_220 ⟨by decide +kernel, by decide +kernel⟩) hS (fun locs hS => ?_)
  refine kr_top (y := 0) (by decide +kernel) ?_
  refine lv_if_ne (tgt := 395) hx hb dL_cut_223 (by decide) (fun hc => absurd (by decide) hc) (fun _ => ?_)
  refine lv_aload_n hx hb dL_cut_226 rfl (lv_at hl 0 rfl) ?_
  refine lv_iconst (v := 1) hx hb dL_cut_227 (by decide) ?_
  refine kgo_i (kc_V (As := [.int (nI 1)]) (rest := []) S hE hS hAb (cc_pass0 ε l (x0 := ad 0 0) (t := 1) hAb hw bC_11 rfl (by decide +kernel) (by decide +kernel) (by decide +kernel) hA2 (by decide +kernel)) (cwV 1 hts gL_cut_X4_pass rfl rfl rfl (by decide +kernel) ⟨Nat.le_of_ble_eq_true rfl, Nat.le_of_ble_eq_true rfl⟩) (hw.lv 0 0 (rfl : (0 : Nat) = 0)) rfl rfl hl.1 rfl (Nat.le_of_ble_eq_true rfl) dL_cut_228 ⟨by decide +kernel, by decide +kernel⟩) hS (fun _ h => h) (fun r9 H1 locs hp hz1 hq hS => ?_)
  obtain ⟨e9, ad, ea, hw⟩ := hp
  have hl : lv_has ls 1 [(0, .ref (ad 0 0))] := by rw [ea]; exact hl
  clear ea
  have hw : kW ε (kGe s.heap.size) ad sC_12 H1 := hw
  clear hz1 hq
  refine W.widen (k := 18) (n := 113) (by decide +kernel) (by decide +kernel) ?_
  refine kr_top (y := 0) (e9.trans (by decide +kernel)) ?_
  have hA2 : ∀ q, H1.size ≤ q → kGe s.heap.size q := fun q h => Nat.le_trans hS.1 h
  refine lv_if_ne (tgt := 395) hx hb dL_cut_231 (by decide) (fun hc => absurd (by decide) hc) (fun _ => ?_)
  refine lv_aload_n hx hb dL_cut_234 rfl (lv_at hl 0 rfl) ?_
  refine lv_iconst (v := 0) hx hb dL_cut_235 (by decide) ?_
  refine kgo_pi (v := nI (sC_12 24 0)) (kc_V (As := [.int (nI 0)]) (rest := []) S hE hS hAb (cp_verdict ε l hw bC_12 (i := 0) (by decide +kernel)) (cwV 1 hts gL_cut_X4_verdict rfl rfl rfl (by decide +kernel) ⟨Nat.le_of_ble_eq_true rfl, Nat.le_of_ble_eq_true rfl⟩) (hw.lv 0 0 (rfl : (0 : Nat) = 0)) rfl rfl hl.1 rfl (Nat.le_of_ble_eq_true rfl) dL_cut_236 ⟨by decide +kernel, by decide +kernel⟩) hS (fun locs hS => ?_)
  refine kr_top (y := 1) (by decide +kernel) ?_
  refine lv_iconst (v := 1) hx hb dL_cut_239 (by decide) ?_
  refine lv_icmp_ne (tgt := 395) hx hb dL_cut_240 (by decide) (fun hc => absurd (by decide) hc) (fun _ => ?_)
  refine lv_aload_n hx hb dL_cut_243 rfl (lv_at hl 0 rfl) ?_
  refine lv_iconst (v := 1) hx hb dL_cut_244 (by decide) ?_
  refine kgo_pi (v := nI (sC_12 24 1)) (kc_V (As := [.int (nI 1)]) (rest := []) S hE hS hAb (cp_verdict ε l hw bC_12 (i := 1) (by decide +kernel)) (cwV 1 hts gL_cut_X4_verdict rfl rfl rfl (by decide +kernel) ⟨Nat.le_of_ble_eq_true rfl, Nat.le_of_ble_eq_true rfl⟩) (hw.lv 0 0 (rfl : (0 : Nat) = 0)) rfl rfl hl.1 rfl (Nat.le_of_ble_eq_true rfl) dL_cut_245 ⟨by decide +kernel, by decide +kernel⟩) hS (fun locs hS => ?_)
  refine kr_top (y := 0) (by decide +kernel) ?_
  refine lv_if_ne (tgt := 395) hx hb dL_cut_248 (by decide) (fun hc => absurd (by decide) hc) (fun _ => ?_)
  refine lv_aload_n hx hb dL_cut_251 rfl (lv_at hl 0 rfl) ?_
  refine lv_iconst (v := 0) hx hb dL_cut_252 (by decide) ?_
  refine lv_iconst (v := 0) hx hb dL_cut_253 (by decide) ?_
  refine lv_iconst (v := 1) hx hb dL_cut_254 (by decide) ?_
  refine kgo_i (kc_V (As := [.int (nI 0), .int (nI 0), .int (bI true)]) (rest := []) S hE hS hAb (cp_setDown ε l hAb hw bC_12 (i := 0) (r := 0) (b := true) (by decide +kernel) (by decide +kernel)) (cwV 3 hts gL_cut_X4_setDown rfl rfl rfl (by decide +kernel) ⟨Nat.le_of_ble_eq_true rfl, Nat.le_of_ble_eq_true rfl⟩) (hw.lv 0 0 (rfl : (0 : Nat) = 0)) rfl rfl hl.1 rfl (Nat.le_of_ble_eq_true rfl) dL_cut_255 ⟨by decide +kernel, by decide +kernel⟩) hS (fun _ h => h) (fun r9 H1 locs hp hz1 hq hS => ?_)
  obtain ⟨e9, hw⟩ := hp
  have hw : kW ε (kGe s.heap.size) ad sC_13 H1 := hw
  clear hz1 hq
  refine W.widen (k := 18) (n := 113) (by decide +kernel) (by decide +kernel) ?_
  refine kr_top (y := 0) (e9.trans (by decide +kernel)) ?_
  have hA2 : ∀ q, H1.size ≤ q → kGe s.heap.size q := fun q h => Nat.le_trans hS.1 h
  refine lv_if_ne (tgt := 395) hx hb dL_cut_258 (by decide) (fun hc => absurd (by decide) hc) (fun _ => ?_)
  refine lv_aload_n hx hb dL_cut_261 rfl (lv_at hl 0 rfl) ?_
  refine lv_iconst (v := 0) hx hb dL_cut_262 (by decide) ?_
  refine lv_iconst (v := 5) hx hb dL_cut_263 (by decide) ?_
  refine lv_iconst (v := 3) hx hb dL_cut_264 (by decide) ?_
  refine kgo_i (kc_V (As := [.int (nI 0), .int (nI 5), .int (nI 3)]) (rest := []) S hE hS hAb (cp_addWindow ε l hAb hw bC_13 (i := 0) (t1 := 5) (t2 := 3) (by decide +kernel) (by decide +kernel) (by decide +kernel) (by decide +kernel) (by decide +kernel) hA2) (cwV 3 hts gL_cut_X4_addWindow rfl rfl rfl (by decide +kernel) ⟨Nat.le_of_ble_eq_true rfl, Nat.le_of_ble_eq_true rfl⟩) (hw.lv 0 0 (rfl : (0 : Nat) = 0)) rfl rfl hl.1 rfl (Nat.le_of_ble_eq_true rfl) dL_cut_265 ⟨by decide +kernel, by decide +kernel⟩) hS (fun _ h => h) (fun r9 H1 locs hp hz1 hq hS => ?_)
  obtain ⟨e9, ad, ea, hw⟩ := hp
  have hl : lv_has ls 1 [(0, .ref (ad 0 0))] := by rw [ea]; exact hl
  clear ea
  have hw : kW ε (kGe s.heap.size) ad sC_14 H1 := hw
  clear hz1 hq
  refine W.widen (k := 20) (n := 126) (by decide +kernel) (by decide +kernel) ?_
  refine kr_top (y := 0) (e9.trans (by decide +kernel)) ?_
  have hA2 : ∀ q, H1.size ≤ q → kGe s.heap.size q := fun q h => Nat.le_trans hS.1 h
  refine lv_if_ne (tgt := 395) hx hb dL_cut_268 (by decide) (fun hc => absurd (by decide) hc) (fun _ => ?_)
  refine lv_aload_n hx hb dL_cut_271 rfl (lv_at hl 0 rfl) ?_
  refine lv_iconst (v := 3) hx hb dL_cut_272 (by decide) ?_
  refine kgo_i (kc_V (As := [.int (nI 3)]) (rest := []) S hE hS hAb (cc_pass0 ε l (x0 := ad 0 0) (t := 3) hAb hw bC_14 rfl (by decide +kernel) (by decide +kernel) (by decide +kernel) hA2 (by decide +kernel)) (cwV 1 hts gL_cut_X4_pass rfl rfl rfl (by decide +kernel) ⟨Nat.le_of_ble_eq_true rfl, Nat.le_of_ble_eq_true rfl⟩) (hw.lv 0 0 (rfl : (0 : Nat) = 0)) rfl rfl hl.1 rfl (Nat.le_of_ble_eq_true rfl) dL_cut_273 ⟨by decide +kernel, by decide +kernel⟩) hS (fun _ h => h) (fun r9 H1 locs hp hz1 hq hS => ?_)
  obtain ⟨e9, ad, ea, hw⟩ := hp
  have hl : lv_has ls 1 [(0, .ref (ad 0 0))] := by rw [ea]; exact hl
  clear ea
  have hw : kW ε (kGe s.heap.size) ad sC_15 H1 := hw
  clear hz1 hq
  refine W.widen (k := 20) (n := 126) (by decide +kernel) (by decide +kernel) ?_
  refine kr_top (y := 0) (e9.trans (by decide +kernel)) ?_
  have hA2 : ∀ q, H1.size ≤ q → kGe s.heap.size q := fun q h => Nat.le_trans hS.1 h
  refine lv_if_ne (tgt := 395) hx hb dL_cut_276 (by decide) (fun hc => absurd (by decide) hc) (fun _ => ?_)
  refine lv_aload_n hx hb dL_cut_279 rfl (lv_at hl 0 rfl) ?_
  refine lv_iconst (v := 0) hx hb dL_cut_280 (by decide) ?_
  refine kgo_pi (v := nI (sC_15 24 0)) (kc_V (As := [.int (nI 0)]) (rest := []) S hE hS hAb (cp_verdict ε l hw bC_15 (i := 0) (by decide +kernel)) (cwV 1 hts gL_cut_X4_verdict rfl rfl rfl (by decide +kernel) ⟨Nat.le_of_ble_eq_true rfl, Nat.le_of_ble_eq_true rfl⟩) (hw.lv 0 0 (rfl : (0 : Nat) = 0)) rfl rfl hl.1 rfl (Nat.le_of_ble_eq_true rfl) dL_cut_281 ⟨by decide +kernel, by decide +kernel⟩) hS (fun locs hS => ?_)
  refine kr_top (y := 2) (by decide +kernel) ?_
  refine lv_iconst (v := 2) hx hb dL_cut_284 (by decide) ?_
  refine lv_icmp_ne (tgt := 395) hx hb dL_cut_285 (by decide) (fun hc => absurd (by decide) hc) (fun _ => ?_)
  refine lv_aload_n hx hb dL_cut_288 rfl (lv_at hl 0 rfl) ?_
  refine lv_iconst (v := 0) hx hb dL_cut_289 (by decide) ?_
  refine kgo_pi (v := bI ((sC_15 15 0).testBit 0)) (kc_V (As := [.int (nI 0)]) (rest := []) S hE hS hAb (cp_isBad ε l hw bC_15 (i := 0) (by decide +kernel)) (cwV 1 hts gL_cut_X4_isBad rfl rfl rfl (by decide +kernel) ⟨Nat.le_of_ble_eq_true rfl, Nat.le_of_ble_eq_true rfl⟩) (hw.lv 0 0 (rfl : (0 : Nat) = 0)) rfl rfl hl.1 rfl (Nat.le_of_ble_eq_true rfl) dL_cut_290 ⟨by decide +kernel, by decide +kernel⟩) hS (fun locs hS => ?_)
  refine kr_top (y := 0) (by decide +kernel) ?_
  refine lv_if_ne (tgt := 395) hx hb dL_cut_293 (by decide) (fun hc => absurd (by decide) hc) (fun _ => ?_)
  refine lv_aload_n hx hb dL_cut_296 rfl (lv_at hl 0 rfl) ?_
  refine lv_iconst (v := 1) hx hb dL_cut_297 (by decide) ?_
  refine kgo_i (kc_V (As := [.int (nI 1)]) (rest := []) S hE hS hAb (cc_pass0 ε l (x0 := ad 0 0) (t := 1) hAb hw bC_15 rfl (by decide +kernel) (by decide +kernel) (by decide +kernel) hA2 (by decide +kernel)) (cwV 1 hts gL_cut_X4_pass rfl rfl rfl (by decide +kernel) ⟨Nat.le_of_ble_eq_true rfl, Nat.le_of_ble_eq_true rfl⟩) (hw.lv 0 0 (rfl : (0 : Nat) = 0)) rfl rfl hl.1 rfl (Nat.le_of_ble_eq_true rfl) dL_cut_298 ⟨by decide +kernel, by decide +kernel⟩) hS (fun _ h => h) (fun r9 H1 locs hp hz1 hq hS => ?_)
  obtain ⟨e9, ad, ea, hw⟩ := hp
  have hl : lv_has ls 1 [(0, .ref (ad 0 0))] := by rw [ea]; exact hl
  clear ea
  have hw : kW ε (kGe s.heap.size) ad sC_16 H1 := hw
  clear hz1 hq
  refine W.widen (k := 22) (n := 139) (by decide +kernel) (by decide +kernel) ?_
  refine kr_top (y := 1) (e9.trans (by decide +kernel)) ?_
  have hA2 : ∀ q, H1.size ≤ q → kGe s.heap.size q := fun q h => Nat.le_trans hS.1 h
  refine lv_iconst (v := 1) hx hb dL_cut_301 (by decide) ?_
  refine lv_icmp_ne (tgt := 395) hx hb dL_cut_302 (by decide) (fun hc => absurd (by decide) hc) (fun _ => ?_)
  refine lv_aload_n hx hb dL_cut_305 rfl (lv_at hl 0 rfl) ?_
  refine lv_iconst (v := 0) hx hb dL_cut_306 (by decide) ?_
  refine kgo_pi (v := nI (sC_16 51 0)) (kc_V (As := [.int (nI 0)]) (rest := []) S hE hS hAb (cp_alarmRaised ε l hw bC_16 (i := 0) (by decide +kernel)) (cwV 1 hts gL_cut_X4_alarmRaised rfl rfl rfl (by decide +kernel) ⟨Nat.le_of_ble_eq_true rfl, Nat.le_of_ble_eq_true rfl⟩) (hw.lv 0 0 (rfl : (0 : Nat) = 0)) rfl rfl hl.1 rfl (Nat.le_of_ble_eq_true rfl) dL_cut_307 ⟨by decide +kernel, by decide +kernel⟩) hS (fun locs hS => ?_)
  refine kr_top (y := 8) (by decide +kernel) ?_
  refine lv_bipush (v := 8) hx hb dL_cut_310 (by decide) ?_
  refine lv_icmp_ne (tgt := 395) hx hb dL_cut_312 (by decide) (fun hc => absurd (by decide) hc) (fun _ => ?_)
  refine lv_aload_n hx hb dL_cut_315 rfl (lv_at hl 0 rfl) ?_
  refine lv_iconst (v := 0) hx hb dL_cut_316 (by decide) ?_
  refine kgo_pi (v := nI (sC_16 50 0)) (kc_V (As := [.int (nI 0)]) (rest := []) S hE hS hAb (cp_alarmCheck ε l hw bC_16 (i := 0) (by decide +kernel)) (cwV 1 hts gL_cut_X4_alarmCheck rfl rfl rfl (by decide +kernel) ⟨Nat.le_of_ble_eq_true rfl, Nat.le_of_ble_eq_true rfl⟩) (hw.lv 0 0 (rfl : (0 : Nat) = 0)) rfl rfl hl.1 rfl (Nat.le_of_ble_eq_true rfl) dL_cut_317 ⟨by decide +kernel, by decide +kernel⟩) hS (fun locs hS => ?_)
  refine kr_top (y := 0) (by decide +kernel) ?_
  refine lv_if_ne (tgt := 395) hx hb dL_cut_320 (by decide) (fun hc => absurd (by decide) hc) (fun _ => ?_)
  refine lv_aload_n hx hb dL_cut_323 rfl (lv_at hl 0 rfl) ?_
  refine lv_iconst (v := 0) hx hb dL_cut_324 (by decide) ?_
  refine kgo_i (kc_V (As := [.int (nI 0)]) (rest := []) S hE hS hAb (cp_endWindow ε l hAb hw bC_16 (i := 0) (by decide +kernel)) (cwV 1 hts gL_cut_X4_endWindow rfl rfl rfl (by decide +kernel) ⟨Nat.le_of_ble_eq_true rfl, Nat.le_of_ble_eq_true rfl⟩) (hw.lv 0 0 (rfl : (0 : Nat) = 0)) rfl rfl hl.1 rfl (Nat.le_of_ble_eq_true rfl) dL_cut_325 ⟨by decide +kernel, by decide +kernel⟩) hS (fun _ h => h) (fun r9 H1 locs hp hz1 hq hS => ?_)
  obtain ⟨e9, hw⟩ := hp
  have hw : kW ε (kGe s.heap.size) ad sC_17 H1 := hw
  clear hz1 hq
  refine W.widen (k := 22) (n := 139) (by decide +kernel) (by decide +kernel) ?_
  refine kr_top (y := 3) (e9.trans (by decide +kernel)) ?_
  have hA2 : ∀ q, H1.size ≤ q → kGe s.heap.size q := fun q h => Nat.le_trans hS.1 h
  refine lv_iconst (v := 3) hx hb dL_cut_328 (by decide) ?_
  refine lv_icmp_ne (tgt := 395) hx hb dL_cut_329 (by decide) (fun hc => absurd (by decide) hc) (fun _ => ?_)
  refine lv_aload_n hx hb dL_cut_332 rfl (lv_at hl 0 rfl) ?_
  refine lv_iconst (v := 1) hx hb dL_cut_333 (by decide) ?_
  refine lv_bipush (v := 10) hx hb dL_cut_334 (by decide) ?_
  refine lv_bipush (v := 100) hx hb dL_cut_336 (by decide) ?_
  refine kgo_i (kc_V (As := [.int (nI 1), .int (nI 10), .int (nI 100)]) (rest := []) S hE hS hAb (cp_addWindow ε l hAb hw bC_17 (i := 1) (t1 := 10) (t2 := 100) (by decide +kernel) (by decide +kernel) (by decide +kernel) (by decide +kernel) (by decide +kernel) hA2) (cwV 3 hts gL_cut_X4_addWindow rfl rfl rfl (by decide +kernel) ⟨Nat.le_of_ble_eq_true rfl, Nat.le_of_ble_eq_true rfl⟩) (hw.lv 0 0 (rfl : (0 : Nat) = 0)) rfl rfl hl.1 rfl (Nat.le_of_ble_eq_true rfl) dL_cut_338 ⟨by decide +kernel, by decide +kernel⟩) hS (fun _ h => h) (fun r9 H1 locs hp hz1 hq hS => ?_)
  obtain ⟨e9, ad, ea, hw⟩ := hp
  have hl : lv_has ls 1 [(0, .ref (ad 0 0))] := by rw [ea]; exact hl
  clear ea
  have hw : kW ε (kGe s.heap.size) ad sC_18 H1 := hw
  clear hz1 hq
  refine W.widen (k := 23) (n := 142) (by decide +kernel) (by decide +kernel) ?_
  refine kr_top (y := 1) (e9.trans (by decide +kernel)) ?_
  have hA2 : ∀ q, H1.size ≤ q → kGe s.heap.size q := fun q h => Nat.le_trans hS.1 h
  refine lv_iconst (v := 1) hx hb dL_cut_341 (by decide) ?_
  refine lv_icmp_ne (tgt := 395) hx hb dL_cut_342 (by decide) (fun hc => absurd (by decide) hc) (fun _ => ?_)
  refine lv_aload_n hx hb dL_cut_345 rfl (lv_at hl 0 rfl) ?_
  refine lv_iconst (v := 1) hx hb dL_cut_346 (by decide) ?_
  refine kgo_i (kc_V (As := [.int (nI 1)]) (rest := []) S hE hS hAb (cp_endWindow ε l hAb hw bC_18 (i := 1) (by decide +kernel)) (cwV 1 hts gL_cut_X4_endWindow rfl rfl rfl (by decide +kernel) ⟨Nat.le_of_ble_eq_true rfl, Nat.le_of_ble_eq_true rfl⟩) (hw.lv 0 0 (rfl : (0 : Nat) = 0)) rfl rfl hl.1 rfl (Nat.le_of_ble_eq_true rfl) dL_cut_347 ⟨by decide +kernel, by decide +kernel⟩) hS (fun _ h => h) (fun r9 H1 locs hp hz1 hq hS => ?_)
  obtain ⟨e9, hw⟩ := hp
  have hw : kW ε (kGe s.heap.size) ad sC_19 H1 := hw
  clear hz1 hq
  refine W.widen (k := 23) (n := 142) (by decide +kernel) (by decide +kernel) ?_
  refine kr_top (y := 0) (e9.trans (by decide +kernel)) ?_
  have hA2 : ∀ q, H1.size ≤ q → kGe s.heap.size q := fun q h => Nat.le_trans hS.1 h
  refine lv_if_ne (tgt := 395) hx hb dL_cut_350 (by decide) (fun hc => absurd (by decide) hc) (fun _ => ?_)
  refine lv_aload_n hx hb dL_cut_353 rfl (lv_at hl 0 rfl) ?_
  refine lv_iconst (v := 1) hx hb dL_cut_354 (by decide) ?_
  refine lv_iconst (v := 0) hx hb dL_cut_355 (by decide) ?_
  refine lv_bipush (v := 100) hx hb dL_cut_356 (by decide) ?_
  refine kgo_i (kc_V (As := [.int (nI 1), .int (nI 0), .int (nI 100)]) (rest := []) S hE hS hAb (cp_addWindow ε l hAb hw bC_19 (i := 1) (t1 := 0) (t2 := 100) (by decide +kernel) (by decide +kernel) (by decide +kernel) (by decide +kernel) (by decide +kernel) hA2) (cwV 3 hts gL_cut_X4_addWindow rfl rfl rfl (by decide +kernel) ⟨Nat.le_of_ble_eq_true rfl, Nat.le_of_ble_eq_true rfl⟩) (hw.lv 0 0 (rfl : (0 : Nat) = 0)) rfl rfl hl.1 rfl (Nat.le_of_ble_eq_true rfl) dL_cut_358 ⟨by decide +kernel, by decide +kernel⟩) hS (fun _ h => h) (fun r9 H1 locs hp hz1 hq hS => ?_)
  obtain ⟨e9, ad, ea, hw⟩ := hp
  have hl : lv_has ls 1 [(0, .ref (ad 0 0))] := by rw [ea]; exact hl
  clear ea
  have hw : kW ε (kGe s.heap.size) ad sC_20 H1 := hw
  clear hz1 hq
  refine W.widen (k := 24) (n := 145) (by decide +kernel) (by decide +kernel) ?_
  refine kr_top (y := 2) (e9.trans (by decide +kernel)) ?_
  have hA2 : ∀ q, H1.size ≤ q → kGe s.heap.size q := fun q h => Nat.le_trans hS.1 h
  refine lv_iconst (v := 2) hx hb dL_cut_361 (by decide) ?_
  refine lv_icmp_ne (tgt := 395) hx hb dL_cut_362 (by decide) (fun hc => absurd (by decide) hc) (fun _ => ?_)
  refine lv_aload_n hx hb dL_cut_365 rfl (lv_at hl 0 rfl) ?_
  refine lv_iconst (v := 2) hx hb dL_cut_366 (by decide) ?_
  refine kgo_i (kc_V (As := [.int (nI 2)]) (rest := []) S hE hS hAb (cp_endWindow ε l hAb hw bC_20 (i := 2) (by decide +kernel)) (cwV 1 hts gL_cut_X4_endWindow rfl rfl rfl (by decide +kernel) ⟨Nat.le_of_ble_eq_true rfl, Nat.le_of_ble_eq_true rfl⟩) (hw.lv 0 0 (rfl : (0 : Nat) = 0)) rfl rfl hl.1 rfl (Nat.le_of_ble_eq_true rfl) dL_cut_367 ⟨by decide +kernel, by decide +kernel⟩) hS (fun _ h => h) (fun r9 H1 locs hp hz1 hq hS => ?_)
  obtain ⟨e9, hw⟩ := hp
  have hw : kW ε (kGe s.heap.size) ad sC_21 H1 := hw
  clear hz1 hq
  refine W.widen (k := 24) (n := 145) (by decide +kernel) (by decide +kernel) ?_
  refine kr_top (y := 9) (e9.trans (by decide +kernel)) ?_
  have hA2 : ∀ q, H1.size ≤ q → kGe s.heap.size q := fun q h => Nat.le_trans hS.1 h
  refine lv_bipush (v := 9) hx hb dL_cut_370 (by decide) ?_
  refine lv_icmp_ne (tgt := 395) hx hb dL_cut_372 (by decide) (fun hc => absurd (by decide) hc) (fun _ => ?_)
  refine lv_aload_n hx hb dL_cut_375 rfl (lv_at hl 0 rfl) ?_
  refine lv_iconst (v := 2) hx hb dL_cut_376 (by decide) ?_
  refine kgo_i (kc_V (As := [.int (nI 2)]) (rest := []) S hE hS hAb (cp_endWindow ε l hAb hw bC_21 (i := 2) (by decide +kernel)) (cwV 1 hts gL_cut_X4_endWindow rfl rfl rfl (by decide +kernel) ⟨Nat.le_of_ble_eq_true rfl, Nat.le_of_ble_eq_true rfl⟩) (hw.lv 0 0 (rfl : (0 : Nat) = 0)) rfl rfl hl.1 rfl (Nat.le_of_ble_eq_true rfl) dL_cut_377 ⟨by decide +kernel, by decide +kernel⟩) hS (fun _ h => h) (fun r9 H1 locs hp hz1 hq hS => ?_)
  obtain ⟨e9, hw⟩ := hp
  have hw : kW ε (kGe s.heap.size) ad sC_22 H1 := hw
  clear hz1 hq
  refine W.widen (k := 24) (n := 145) (by decide +kernel) (by decide +kernel) ?_
  refine kr_top (y := 9) (e9.trans (by decide +kernel)) ?_
  have hA2 : ∀ q, H1.size ≤ q → kGe s.heap.size q := fun q h => Nat.le_trans hS.1 h
  refine lv_bipush (v := 9) hx hb dL_cut_380 (by decide) ?_
  refine lv_icmp_ne (tgt := 395) hx hb dL_cut_382 (by decide) (fun hc => absurd (by decide) hc) (fun _ => ?_)
  refine lv_aload_n hx hb dL_cut_385 rfl (lv_at hl 0 rfl) ?_
  refine lv_iconst (v := 3) hx hb dL_cut_386 (by decide) ?_
  refine lv_iconst (v := 2) hx hb dL_cut_387 (by decide) ?_
  refine lv_iconst (v := 3) hx hb dL_cut_388 (by decide) ?_
  refine kgo_i (kc_S (As := [.ref (ad 0 0), .int 3, .int 2, .int 3]) (rest := []) S hE hS hAb (cl_refuses2 ε l hst hw bC_22 (by decide +kernel) (by decide +kernel) (by decide +kernel) (by decide +kernel)) (va_cwS 4 hts gL_cut_L_refuses rfl rfl rfl (by decide +kernel) ⟨Nat.le_of_ble_eq_true rfl, Nat.le_of_ble_eq_true rfl⟩) rfl hl.1 rfl (Nat.le_of_ble_eq_true rfl) dL_cut_389 ⟨by decide +kernel, by decide +kernel⟩) hS (fun _ h => h.elim) (fun r9 H1 locs e9 hz1 hq hS => ?_)
  have hw := hw.keep (fun k j hk => hq _ (va_at.lt (hw.1 k j hk).1) (fun h => h))
  clear hz1 hq
  refine W.widen (k := 152) (n := 913) (by decide +kernel) (by decide +kernel) ?_
  refine kr_top e9 ?_
  have hA2 : ∀ q, H1.size ≤ q → kGe s.heap.size q := fun q h => Nat.le_trans hS.1 h
  refine lv_if_ne (tgt := 397) hx hb dL_cut_392 (by decide) (fun _ => ?_) (fun hc => absurd hc (by decide))
  exact KK _ _ _ _ hw hS hl
set_option maxHeartbeats 8000000 in
set_option maxRecDepth 100000 in
theorem sgC_2 (S : CallFix p m c cL_cut 1 s args wsL_cut RL) (hE : kE ε s) (hst : l.stackTraces = false) (hlo : ε.2.2.1 ≤ s.heap.size) (hw : kW ε (kGe s.heap.size) ad sC_22 H) (hS : va_S (kGe s.heap.size) s.heap H locs) (hl : lv_has ls 1 [(0, .ref (ad 0 0))])
    (KK : ∀ (ad' : Nat → Nat → Nat) (H' : Heap) (locs' : List Loc) (ls' : Array Slot), kW ε (kGe s.heap.size) ad' sC_26 H' → va_S (kGe s.heap.size) s.heap H' locs' → lv_has ls' 1 [(0, .ref (ad' 0 0))] → W p l e ({ frames := 13, cells := 153, slots := 917, locals := 420 }) s m args below meth c H' locs' 153 917 Q (F0 m 529 ls' [])) : W p l e ({ frames := 13, cells := 153, slots := 917, locals := 420 }) s m args below meth c H locs 152 913 Q (F0 m 397 ls []) := by
  have hx := S.1
  have hb := S.2.1
  have hown : s.vm.findClass RL = some m.cls := S.2.2.2.1
  have hts := S.2.2.2.2
  have hK := hE.1
  have hAb : ∀ q, kGe s.heap.size q → kHi ε q := fun q h => Nat.le_trans hlo h
  have hA2 : ∀ q, H.size ≤ q → kGe s.heap.size q := fun q h => Nat.le_trans hS.1 h
  refine lv_aload_n hx hb dL_cut_397 rfl (lv_at hl 0 rfl) ?_
  refine lv_iconst (v := 1) hx hb dL_cut_398 (by decide) ?_
  refine lv_iconst (v := 0) hx hb dL_cut_399 (by decide) ?_
  refine lv_iconst (v := 1) hx hb dL_cut_400 (by decide) ?_
  refine kgo_i (kc_V (As := [.int (nI 1), .int (nI 0), .int (bI true)]) (rest := []) S hE hS hAb (cp_setDown ε l hAb hw bC_22 (i := 1) (r := 0) (b := true) (by decide +kernel) (by decide +kernel)) (cwV 3 hts gL_cut_X4_setDown rfl rfl rfl (by decide +kernel) ⟨Nat.le_of_ble_eq_true rfl, Nat.le_of_ble_eq_true rfl⟩) (hw.lv 0 0 (rfl : (0 : Nat) = 0)) rfl rfl hl.1 rfl (Nat.le_of_ble_eq_true rfl) dL_cut_401 ⟨by decide +kernel, by decide +kernel⟩) hS (fun _ h => h) (fun r9 H1 locs hp hz1 hq hS => ?_)
  obtain ⟨e9, hw⟩ := hp
  have hw : kW ε (kGe s.heap.size) ad sC_23 H1 := hw
  clear hz1 hq
  refine W.widen (k := 152) (n := 913) (by decide +kernel) (by decide +kernel) ?_
  refine kr_top (y := 0) (e9.trans (by decide +kernel)) ?_
  have hA2 : ∀ q, H1.size ≤ q → kGe s.heap.size q := fun q h => Nat.le_trans hS.1 h
  refine lv_if_ne (tgt := 527) hx hb dL_cut_404 (by decide) (fun hc => absurd (by decide) hc) (fun _ => ?_)
  refine lv_aload_n hx hb dL_cut_407 rfl (lv_at hl 0 rfl) ?_
  refine lv_iconst (v := 1) hx hb dL_cut_408 (by decide) ?_
  refine kgo_i (kc_V (As := [.int (nI 1)]) (rest := []) S hE hS hAb (cc_pass0 ε l (x0 := ad 0 0) (t := 1) hAb hw bC_23 rfl (by decide +kernel) (by decide +kernel) (by decide +kernel) hA2 (by decide +kernel)) (cwV 1 hts gL_cut_X4_pass rfl rfl rfl (by decide +kernel) ⟨Nat.le_of_ble_eq_true rfl, Nat.le_of_ble_eq_true rfl⟩) (hw.lv 0 0 (rfl : (0 : Nat) = 0)) rfl rfl hl.1 rfl (Nat.le_of_ble_eq_true rfl) dL_cut_409 ⟨by decide +kernel, by decide +kernel⟩) hS (fun _ h => h) (fun r9 H1 locs hp hz1 hq hS => ?_)
  obtain ⟨e9, ad, ea, hw⟩ := hp
  have hl : lv_has ls 1 [(0, .ref (ad 0 0))] := by rw [ea]; exact hl
  clear ea
  have hw : kW ε (kGe s.heap.size) ad sC_24 H1 := hw
  clear hz1 hq
  refine W.widen (k := 152) (n := 913) (by decide +kernel) (by decide +kernel) ?_
  refine kr_top (y := 0) (e9.trans (by decide +kernel)) ?_
  have hA2 : ∀ q, H1.size ≤ q → kGe s.heap.size q := fun q h => Nat.le_trans hS.1 h
  refine lv_if_ne (tgt := 527) hx hb dL_cut_412 (by decide) (fun hc => absurd (by decide) hc) (fun _ => ?_)
  refine lv_aload_n hx hb dL_cut_415 rfl (lv_at hl 0 rfl) ?_
  refine lv_iconst (v := 0) hx hb dL_cut_416 (by decide) ?_
  refine kgo_pi (v := bI ((sC_24 15 0).testBit 0)) (kc_V (As := [.int (nI 0)]) (rest := []) S hE hS hAb (cp_isBad ε l hw bC_24 (i := 0) (by decide +kernel)) (cwV 1 hts gL_cut_X4_isBad rfl rfl rfl (by decide +kernel) ⟨Nat.le_of_ble_eq_true rfl, Nat.le_of_ble_eq_true rfl⟩) (hw.lv 0 0 (rfl : (0 : Nat) = 0)) rfl rfl hl.1 rfl (Nat.le_of_ble_eq_true rfl) dL_cut_417 ⟨by decide +kernel, by decide +kernel⟩) hS (fun locs hS => ?_)
  refine kr_top (y := 1) (by decide +kernel) ?_
  refine lv_if_eq (tgt := 527) hx hb dL_cut_420 (by decide) (fun hc => absurd hc (by decide)) (fun _ => ?_)
  refine lv_aload_n hx hb dL_cut_423 rfl (lv_at hl 0 rfl) ?_
  refine lv_iconst (v := 0) hx hb dL_cut_424 (by decide) ?_
  refine kgo_pi (v := nI (sC_24 24 0)) (kc_V (As := [.int (nI 0)]) (rest := []) S hE hS hAb (cp_verdict ε l hw bC_24 (i := 0) (by decide +kernel)) (cwV 1 hts gL_cut_X4_verdict rfl rfl rfl (by decide +kernel) ⟨Nat.le_of_ble_eq_true rfl, Nat.le_of_ble_eq_true rfl⟩) (hw.lv 0 0 (rfl : (0 : Nat) = 0)) rfl rfl hl.1 rfl (Nat.le_of_ble_eq_true rfl) dL_cut_425 ⟨by decide +kernel, by decide +kernel⟩) hS (fun locs hS => ?_)
  refine kr_top (y := 0) (by decide +kernel) ?_
  refine lv_if_ne (tgt := 527) hx hb dL_cut_428 (by decide) (fun hc => absurd (by decide) hc) (fun _ => ?_)
  refine lv_aload_n hx hb dL_cut_431 rfl (lv_at hl 0 rfl) ?_
  refine lv_iconst (v := 0) hx hb dL_cut_432 (by decide) ?_
  refine kgo_pi (v := bI (sC_24 25 0 != 0)) (kc_V (As := [.int (nI 0)]) (rest := []) S hE hS hAb (cp_hasAlarm ε l hw bC_24 (i := 0) (by decide +kernel)) (cwV 1 hts gL_cut_X4_hasAlarm rfl rfl rfl (by decide +kernel) ⟨Nat.le_of_ble_eq_true rfl, Nat.le_of_ble_eq_true rfl⟩) (hw.lv 0 0 (rfl : (0 : Nat) = 0)) rfl rfl hl.1 rfl (Nat.le_of_ble_eq_true rfl) dL_cut_433 ⟨by decide +kernel, by decide +kernel⟩) hS (fun locs hS => ?_)
  refine kr_top (y := 1) (by decide +kernel) ?_
  refine lv_if_eq (tgt := 527) hx hb dL_cut_436 (by decide) (fun hc => absurd hc (by decide)) (fun _ => ?_)
  refine lv_aload_n hx hb dL_cut_439 rfl (lv_at hl 0 rfl) ?_
  refine lv_iconst (v := 0) hx hb dL_cut_440 (by decide) ?_
  refine kgo_pi (v := nI (kTrm sC_24 0 (sC_24 1 0))) (kc_V (As := [.int (nI 0)]) (rest := []) S hE hS hAb (cp_trusted ε l hw bC_24 (i := 0) (by decide +kernel)) (cwV 1 hts gL_cut_X4_trusted rfl rfl rfl (by decide +kernel) ⟨Nat.le_of_ble_eq_true rfl, Nat.le_of_ble_eq_true rfl⟩) (hw.lv 0 0 (rfl : (0 : Nat) = 0)) rfl rfl hl.1 rfl (Nat.le_of_ble_eq_true rfl) dL_cut_441 ⟨by decide +kernel, by decide +kernel⟩) hS (fun locs hS => ?_)
  refine kr_top (y := 0) (by decide +kernel) ?_
  refine lv_if_ne (tgt := 527) hx hb dL_cut_444 (by decide) (fun hc => absurd (by decide) hc) (fun _ => ?_)
  refine lv_aload_n hx hb dL_cut_447 rfl (lv_at hl 0 rfl) ?_
  refine lv_iconst (v := 0) hx hb dL_cut_448 (by decide) ?_
  refine kgo_pi (v := mI (sC_24 52 0)) (kc_V (As := [.int (nI 0)]) (rest := []) S hE hS hAb (cp_alarmClosed ε l hw bC_24 (i := 0) (by decide +kernel)) (cwV 1 hts gL_cut_X4_alarmClosed rfl rfl rfl (by decide +kernel) ⟨Nat.le_of_ble_eq_true rfl, Nat.le_of_ble_eq_true rfl⟩) (hw.lv 0 0 (rfl : (0 : Nat) = 0)) rfl rfl hl.1 rfl (Nat.le_of_ble_eq_true rfl) dL_cut_449 ⟨by decide +kernel, by decide +kernel⟩) hS (fun locs hS => ?_)
  refine kr_top (y := (-1)) (by decide +kernel) ?_
  refine lv_iconst (v := -1) hx hb dL_cut_452 (by decide) ?_
  refine lv_icmp_ne (tgt := 527) hx hb dL_cut_453 (by decide) (fun hc => absurd (by decide) hc) (fun _ => ?_)
  refine lv_aload_n hx hb dL_cut_456 rfl (lv_at hl 0 rfl) ?_
  refine lv_iconst (v := 0) hx hb dL_cut_457 (by decide) ?_
  refine kgo_i (kc_V (As := [.int (nI 0)]) (rest := []) S hE hS hAb (cp_addRegionS ε l hAb hw bC_24 (r := 0) (by decide +kernel) (by decide +kernel) zC_24 hA2) (cwV 1 hts gL_cut_X4_addRegion rfl rfl rfl (by decide +kernel) ⟨Nat.le_of_ble_eq_true rfl, Nat.le_of_ble_eq_true rfl⟩) (hw.lv 0 0 (rfl : (0 : Nat) = 0)) rfl rfl hl.1 rfl (Nat.le_of_ble_eq_true rfl) dL_cut_458 ⟨by decide +kernel, by decide +kernel⟩) hS (fun _ h => h) (fun r9 H1 locs hp hz1 hq hS => ?_)
  obtain ⟨e9, ad, ea, hw⟩ := hp
  have hl : lv_has ls 1 [(0, .ref (ad 0 0))] := by rw [ea]; exact hl
  clear ea
  have hw : kW ε (kGe s.heap.size) ad sC_25 H1 := hw
  clear hz1 hq
  refine W.widen (k := 153) (n := 917) (by decide +kernel) (by decide +kernel) ?_
  refine kr_top (y := 3) (e9.trans (by decide +kernel)) ?_
  have hA2 : ∀ q, H1.size ≤ q → kGe s.heap.size q := fun q h => Nat.le_trans hS.1 h
  refine lv_iconst (v := 3) hx hb dL_cut_461 (by decide) ?_
  refine lv_icmp_ne (tgt := 527) hx hb dL_cut_462 (by decide) (fun hc => absurd (by decide) hc) (fun _ => ?_)
  refine lv_aload_n hx hb dL_cut_465 rfl (lv_at hl 0 rfl) ?_
  refine lv_iconst (v := 0) hx hb dL_cut_466 (by decide) ?_
  refine lv_iconst (v := 3) hx hb dL_cut_467 (by decide) ?_
  refine kgo_pi (v := nI (sC_25 31 (6 * 0 + 3))) (kc_V (As := [.int (nI 0), .int (nI 3)]) (rest := []) S hE hS hAb (cp_vote ε l hw bC_25 (i := 0) (r := 3) (by decide +kernel) (by decide +kernel)) (cwV 2 hts gL_cut_X4_vote rfl rfl rfl (by decide +kernel) ⟨Nat.le_of_ble_eq_true rfl, Nat.le_of_ble_eq_true rfl⟩) (hw.lv 0 0 (rfl : (0 : Nat) = 0)) rfl rfl hl.1 rfl (Nat.le_of_ble_eq_true rfl) dL_cut_468 ⟨by decide +kernel, by decide +kernel⟩) hS (fun locs hS => ?_)
  refine kr_top (y := 0) (by decide +kernel) ?_
  refine lv_if_ne (tgt := 527) hx hb dL_cut_471 (by decide) (fun hc => absurd (by decide) hc) (fun _ => ?_)
  refine lv_aload_n hx hb dL_cut_474 rfl (lv_at hl 0 rfl) ?_
  refine lv_iconst (v := 0) hx hb dL_cut_475 (by decide) ?_
  refine lv_iconst (v := 3) hx hb dL_cut_476 (by decide) ?_
  refine kgo_pi (v := nI (kNext sC_25 0 3 (sC_25 0 0 + 1))) (kc_V (As := [.int (nI 0), .int (nI 3)]) (rest := []) S hE hS hAb (cp_nextProbe ε l hw bC_25 (i := 0) (r := 3) (by decide +kernel) (by decide +kernel)) (cwV 2 hts gL_cut_X4_nextProbe rfl rfl rfl (by decide +kernel) ⟨Nat.le_of_ble_eq_true rfl, Nat.le_of_ble_eq_true rfl⟩) (hw.lv 0 0 (rfl : (0 : Nat) = 0)) rfl rfl hl.1 rfl (Nat.le_of_ble_eq_true rfl) dL_cut_477 ⟨by decide +kernel, by decide +kernel⟩) hS (fun locs hS => ?_)
  refine kr_top (y := 10) (by decide +kernel) ?_
  refine lv_bipush (v := 10) hx hb dL_cut_480 (by decide) ?_
  refine lv_icmp_ne (tgt := 527) hx hb dL_cut_482 (by decide) (fun hc => absurd (by decide) hc) (fun _ => ?_)
  refine lv_aload_n hx hb dL_cut_485 rfl (lv_at hl 0 rfl) ?_
  refine lv_iconst (v := 1) hx hb dL_cut_486 (by decide) ?_
  refine kgo_i (kc_V (As := [.int (nI 1)]) (rest := []) S hE hS hAb (cc_pass0 ε l (x0 := ad 0 0) (t := 1) hAb hw bC_25 rfl (by decide +kernel) (by decide +kernel) (by decide +kernel) hA2 (by decide +kernel)) (cwV 1 hts gL_cut_X4_pass rfl rfl rfl (by decide +kernel) ⟨Nat.le_of_ble_eq_true rfl, Nat.le_of_ble_eq_true rfl⟩) (hw.lv 0 0 (rfl : (0 : Nat) = 0)) rfl rfl hl.1 rfl (Nat.le_of_ble_eq_true rfl) dL_cut_487 ⟨by decide +kernel, by decide +kernel⟩) hS (fun _ h => h) (fun r9 H1 locs hp hz1 hq hS => ?_)
  obtain ⟨e9, ad, ea, hw⟩ := hp
  have hl : lv_has ls 1 [(0, .ref (ad 0 0))] := by rw [ea]; exact hl
  clear ea
  have hw : kW ε (kGe s.heap.size) ad sC_26 H1 := hw
  clear hz1 hq
  refine W.widen (k := 153) (n := 917) (by decide +kernel) (by decide +kernel) ?_
  refine kr_top (y := 0) (e9.trans (by decide +kernel)) ?_
  have hA2 : ∀ q, H1.size ≤ q → kGe s.heap.size q := fun q h => Nat.le_trans hS.1 h
  refine lv_if_ne (tgt := 527) hx hb dL_cut_490 (by decide) (fun hc => absurd (by decide) hc) (fun _ => ?_)
  refine lv_aload_n hx hb dL_cut_493 rfl (lv_at hl 0 rfl) ?_
  refine lv_iconst (v := 0) hx hb dL_cut_494 (by decide) ?_
  refine lv_iconst (v := 3) hx hb dL_cut_495 (by decide) ?_
  refine kgo_pi (v := nI (sC_26 31 (6 * 0 + 3))) (kc_V (As := [.int (nI 0), .int (nI 3)]) (rest := []) S hE hS hAb (cp_vote ε l hw bC_26 (i := 0) (r := 3) (by decide +kernel) (by decide +kernel)) (cwV 2 hts gL_cut_X4_vote rfl rfl rfl (by decide +kernel) ⟨Nat.le_of_ble_eq_true rfl, Nat.le_of_ble_eq_true rfl⟩) (hw.lv 0 0 (rfl : (0 : Nat) = 0)) rfl rfl hl.1 rfl (Nat.le_of_ble_eq_true rfl) dL_cut_496 ⟨by decide +kernel, by decide +kernel⟩) hS (fun locs hS => ?_)
  refine kr_top (y := 1) (by decide +kernel) ?_
  refine lv_iconst (v := 1) hx hb dL_cut_499 (by decide) ?_
  refine lv_icmp_ne (tgt := 527) hx hb dL_cut_500 (by decide) (fun hc => absurd (by decide) hc) (fun _ => ?_)
  refine lv_aload_n hx hb dL_cut_503 rfl (lv_at hl 0 rfl) ?_
  refine lv_iconst (v := 3) hx hb dL_cut_504 (by decide) ?_
  refine kgo_pi (v := bI ((sC_26 15 0).testBit 3)) (kc_V (As := [.int (nI 3)]) (rest := []) S hE hS hAb (cp_isBad ε l hw bC_26 (i := 3) (by decide +kernel)) (cwV 1 hts gL_cut_X4_isBad rfl rfl rfl (by decide +kernel) ⟨Nat.le_of_ble_eq_true rfl, Nat.le_of_ble_eq_true rfl⟩) (hw.lv 0 0 (rfl : (0 : Nat) = 0)) rfl rfl hl.1 rfl (Nat.le_of_ble_eq_true rfl) dL_cut_505 ⟨by decide +kernel, by decide +kernel⟩) hS (fun locs hS => ?_)
  refine kr_top (y := 0) (by decide +kernel) ?_
  refine lv_if_ne (tgt := 527) hx hb dL_cut_508 (by decide) (fun hc => absurd (by decide) hc) (fun _ => ?_)
  refine lv_aload_n hx hb dL_cut_511 rfl (lv_at hl 0 rfl) ?_
  refine lv_iconst (v := 0) hx hb dL_cut_512 (by decide) ?_
  refine kgo_pi (v := nI (kTrm sC_26 0 (sC_26 1 0))) (kc_V (As := [.int (nI 0)]) (rest := []) S hE hS hAb (cp_trusted ε l hw bC_26 (i := 0) (by decide +kernel)) (cwV 1 hts gL_cut_X4_trusted rfl rfl rfl (by decide +kernel) ⟨Nat.le_of_ble_eq_true rfl, Nat.le_of_ble_eq_true rfl⟩) (hw.lv 0 0 (rfl : (0 : Nat) = 0)) rfl rfl hl.1 rfl (Nat.le_of_ble_eq_true rfl) dL_cut_513 ⟨by decide +kernel, by decide +kernel⟩) hS (fun locs hS => ?_)
  refine kr_top (y := 0) (by decide +kernel) ?_
  refine lv_if_ne (tgt := 527) hx hb dL_cut_516 (by decide) (fun hc => absurd (by decide) hc) (fun _ => ?_)
  refine lv_aload_n hx hb dL_cut_519 rfl (lv_at hl 0 rfl) ?_
  refine lv_iconst (v := 0) hx hb dL_cut_520 (by decide) ?_
  refine kgo_pi (v := nI (sC_26 24 0)) (kc_V (As := [.int (nI 0)]) (rest := []) S hE hS hAb (cp_verdict ε l hw bC_26 (i := 0) (by decide +kernel)) (cwV 1 hts gL_cut_X4_verdict rfl rfl rfl (by decide +kernel) ⟨Nat.le_of_ble_eq_true rfl, Nat.le_of_ble_eq_true rfl⟩) (hw.lv 0 0 (rfl : (0 : Nat) = 0)) rfl rfl hl.1 rfl (Nat.le_of_ble_eq_true rfl) dL_cut_521 ⟨by decide +kernel, by decide +kernel⟩) hS (fun locs hS => ?_)
  refine kr_top (y := 0) (by decide +kernel) ?_
  refine lv_if_eq (tgt := 529) hx hb dL_cut_524 (by decide) (fun _ => ?_) (fun hc => absurd (by decide) hc)
  exact KK _ _ _ _ hw hS hl
set_option maxHeartbeats 8000000 in
set_option maxRecDepth 100000 in
theorem sgC_3 (S : CallFix p m c cL_cut 1 s args wsL_cut RL) (hE : kE ε s) (hst : l.stackTraces = false) (hlo : ε.2.2.1 ≤ s.heap.size) (hw : kW ε (kGe s.heap.size) ad sC_26 H) (hS : va_S (kGe s.heap.size) s.heap H locs) (hl : lv_has ls 1 [(0, .ref (ad 0 0))])
    (KK : ∀ (ad' : Nat → Nat → Nat) (H' : Heap) (locs' : List Loc) (ls' : Array Slot), kW ε (kGe s.heap.size) ad' sC_28 H' → va_S (kGe s.heap.size) s.heap H' locs' → lv_has ls' 1 [(0, .ref (ad' 0 0))] → W p l e ({ frames := 13, cells := 153, slots := 917, locals := 420 }) s m args below meth c H' locs' 153 917 Q (F0 m 592 ls' [])) : W p l e ({ frames := 13, cells := 153, slots := 917, locals := 420 }) s m args below meth c H locs 153 917 Q (F0 m 529 ls []) := by
  have hx := S.1
  have hb := S.2.1
  have hown : s.vm.findClass RL = some m.cls := S.2.2.2.1
  have hts := S.2.2.2.2
  have hK := hE.1
  have hAb : ∀ q, kGe s.heap.size q → kHi ε q := fun q h => Nat.le_trans hlo h
  have hA2 : ∀ q, H.size ≤ q → kGe s.heap.size q := fun q h => Nat.le_trans hS.1 h
  refine lv_aload_n hx hb dL_cut_529 rfl (lv_at hl 0 rfl) ?_
  refine lv_iconst (v := 1) hx hb dL_cut_530 (by decide) ?_
  refine lv_iconst (v := 0) hx hb dL_cut_531 (by decide) ?_
  refine kgo_i (kc_V (As := [.int (nI 1), .int (bI false)]) (rest := []) S hE hS hAb (cp_setCut ε l hAb hw bC_26 (r := 1) (b := false) (by decide +kernel)) (cwV 2 hts gL_cut_X4_setCut rfl rfl rfl (by decide +kernel) ⟨Nat.le_of_ble_eq_true rfl, Nat.le_of_ble_eq_true rfl⟩) (hw.lv 0 0 (rfl : (0 : Nat) = 0)) rfl rfl hl.1 rfl (Nat.le_of_ble_eq_true rfl) dL_cut_532 ⟨by decide +kernel, by decide +kernel⟩) hS (fun _ h => h) (fun r9 H1 locs hp hz1 hq hS => ?_)
  obtain ⟨e9, hw⟩ := hp
  have hw : kW ε (kGe s.heap.size) ad sC_27 H1 := hw
  clear hz1 hq
  refine W.widen (k := 153) (n := 917) (by decide +kernel) (by decide +kernel) ?_
  refine kr_top (y := 1) (e9.trans (by decide +kernel)) ?_
  have hA2 : ∀ q, H1.size ≤ q → kGe s.heap.size q := fun q h => Nat.le_trans hS.1 h
  refine lv_if_eq (tgt := 596) hx hb dL_cut_535 (by decide) (fun hc => absurd hc (by decide)) (fun _ => ?_)
  refine lv_aload_n hx hb dL_cut_538 rfl (lv_at hl 0 rfl) ?_
  refine lv_iconst (v := 1) hx hb dL_cut_539 (by decide) ?_
  refine kgo_i (kc_V (As := [.int (nI 1)]) (rest := []) S hE hS hAb (cc_pass0 ε l (x0 := ad 0 0) (t := 1) hAb hw bC_27 rfl (by decide +kernel) (by decide +kernel) (by decide +kernel) hA2 (by decide +kernel)) (cwV 1 hts gL_cut_X4_pass rfl rfl rfl (by decide +kernel) ⟨Nat.le_of_ble_eq_true rfl, Nat.le_of_ble_eq_true rfl⟩) (hw.lv 0 0 (rfl : (0 : Nat) = 0)) rfl rfl hl.1 rfl (Nat.le_of_ble_eq_true rfl) dL_cut_540 ⟨by decide +kernel, by decide +kernel⟩) hS (fun _ h => h) (fun r9 H1 locs hp hz1 hq hS => ?_)
  obtain ⟨e9, ad, ea, hw⟩ := hp
  have hl : lv_has ls 1 [(0, .ref (ad 0 0))] := by rw [ea]; exact hl
  clear ea
  have hw : kW ε (kGe s.heap.size) ad sC_28 H1 := hw
  clear hz1 hq
  refine W.widen (k := 153) (n := 917) (by decide +kernel) (by decide +kernel) ?_
  refine kr_top (y := 0) (e9.trans (by decide +kernel)) ?_
  have hA2 : ∀ q, H1.size ≤ q → kGe s.heap.size q := fun q h => Nat.le_trans hS.1 h
  refine lv_if_ne (tgt := 596) hx hb dL_cut_543 (by decide) (fun hc => absurd (by decide) hc) (fun _ => ?_)
  refine lv_aload_n hx hb dL_cut_546 rfl (lv_at hl 0 rfl) ?_
  refine lv_iconst (v := 1) hx hb dL_cut_547 (by decide) ?_
  refine kgo_pi (v := bI ((sC_28 15 0).testBit 1)) (kc_V (As := [.int (nI 1)]) (rest := []) S hE hS hAb (cp_isBad ε l hw bC_28 (i := 1) (by decide +kernel)) (cwV 1 hts gL_cut_X4_isBad rfl rfl rfl (by decide +kernel) ⟨Nat.le_of_ble_eq_true rfl, Nat.le_of_ble_eq_true rfl⟩) (hw.lv 0 0 (rfl : (0 : Nat) = 0)) rfl rfl hl.1 rfl (Nat.le_of_ble_eq_true rfl) dL_cut_548 ⟨by decide +kernel, by decide +kernel⟩) hS (fun locs hS => ?_)
  refine kr_top (y := 0) (by decide +kernel) ?_
  refine lv_if_ne (tgt := 596) hx hb dL_cut_551 (by decide) (fun hc => absurd (by decide) hc) (fun _ => ?_)
  refine lv_aload_n hx hb dL_cut_554 rfl (lv_at hl 0 rfl) ?_
  refine lv_iconst (v := 0) hx hb dL_cut_555 (by decide) ?_
  refine kgo_pi (v := nI (sC_28 24 0)) (kc_V (As := [.int (nI 0)]) (rest := []) S hE hS hAb (cp_verdict ε l hw bC_28 (i := 0) (by decide +kernel)) (cwV 1 hts gL_cut_X4_verdict rfl rfl rfl (by decide +kernel) ⟨Nat.le_of_ble_eq_true rfl, Nat.le_of_ble_eq_true rfl⟩) (hw.lv 0 0 (rfl : (0 : Nat) = 0)) rfl rfl hl.1 rfl (Nat.le_of_ble_eq_true rfl) dL_cut_556 ⟨by decide +kernel, by decide +kernel⟩) hS (fun locs hS => ?_)
  refine kr_top (y := 1) (by decide +kernel) ?_
  refine lv_iconst (v := 1) hx hb dL_cut_559 (by decide) ?_
  refine lv_icmp_ne (tgt := 596) hx hb dL_cut_560 (by decide) (fun hc => absurd (by decide) hc) (fun _ => ?_)
  refine lv_aload_n hx hb dL_cut_563 rfl (lv_at hl 0 rfl) ?_
  refine lv_iconst (v := 0) hx hb dL_cut_564 (by decide) ?_
  refine kgo_pi (v := mI (sC_28 52 0)) (kc_V (As := [.int (nI 0)]) (rest := []) S hE hS hAb (cp_alarmClosed ε l hw bC_28 (i := 0) (by decide +kernel)) (cwV 1 hts gL_cut_X4_alarmClosed rfl rfl rfl (by decide +kernel) ⟨Nat.le_of_ble_eq_true rfl, Nat.le_of_ble_eq_true rfl⟩) (hw.lv 0 0 (rfl : (0 : Nat) = 0)) rfl rfl hl.1 rfl (Nat.le_of_ble_eq_true rfl) dL_cut_565 ⟨by decide +kernel, by decide +kernel⟩) hS (fun locs hS => ?_)
  refine kr_top (y := 11) (by decide +kernel) ?_
  refine lv_bipush (v := 11) hx hb dL_cut_568 (by decide) ?_
  refine lv_icmp_ne (tgt := 596) hx hb dL_cut_570 (by decide) (fun hc => absurd (by decide) hc) (fun _ => ?_)
  refine lv_aload_n hx hb dL_cut_573 rfl (lv_at hl 0 rfl) ?_
  refine lv_iconst (v := 1) hx hb dL_cut_574 (by decide) ?_
  refine kgo_pi (v := nI (kTrm sC_28 1 (sC_28 1 0))) (kc_V (As := [.int (nI 1)]) (rest := []) S hE hS hAb (cp_trusted ε l hw bC_28 (i := 1) (by decide +kernel)) (cwV 1 hts gL_cut_X4_trusted rfl rfl rfl (by decide +kernel) ⟨Nat.le_of_ble_eq_true rfl, Nat.le_of_ble_eq_true rfl⟩) (hw.lv 0 0 (rfl : (0 : Nat) = 0)) rfl rfl hl.1 rfl (Nat.le_of_ble_eq_true rfl) dL_cut_575 ⟨by decide +kernel, by decide +kernel⟩) hS (fun locs hS => ?_)
  refine kr_top (y := 6) (by decide +kernel) ?_
  refine lv_bipush (v := 6) hx hb dL_cut_578 (by decide) ?_
  refine lv_icmp_ne (tgt := 596) hx hb dL_cut_580 (by decide) (fun hc => absurd (by decide) hc) (fun _ => ?_)
  refine lv_aload_n hx hb dL_cut_583 rfl (lv_at hl 0 rfl) ?_
  refine lv_iconst (v := 1) hx hb dL_cut_584 (by decide) ?_
  refine kgo_pi (v := nI (sC_28 24 1)) (kc_V (As := [.int (nI 1)]) (rest := []) S hE hS hAb (cp_verdict ε l hw bC_28 (i := 1) (by decide +kernel)) (cwV 1 hts gL_cut_X4_verdict rfl rfl rfl (by decide +kernel) ⟨Nat.le_of_ble_eq_true rfl, Nat.le_of_ble_eq_true rfl⟩) (hw.lv 0 0 (rfl : (0 : Nat) = 0)) rfl rfl hl.1 rfl (Nat.le_of_ble_eq_true rfl) dL_cut_585 ⟨by decide +kernel, by decide +kernel⟩) hS (fun locs hS => ?_)
  refine kr_top (y := 1) (by decide +kernel) ?_
  refine lv_iconst (v := 1) hx hb dL_cut_588 (by decide) ?_
  refine lv_icmp_ne (tgt := 596) hx hb dL_cut_589 (by decide) (fun hc => absurd (by decide) hc) (fun _ => ?_)
  exact KK _ _ _ _ hw hS hl
end KRUNC
theorem kin_L_cut_X4 : ∀ w ∈ wsX40, w ∈ wsL_cut := by decide +kernel
set_option maxHeartbeats 4000000 in
set_option maxRecDepth 100000 in
theorem cl_cut (ε : kEnv) (l : Launch) {H : Heap} (hst : l.stackTraces = false) (hlo : ε.2.2.1 ≤ H.size) : kMi ε l yL_cut wsL_cut ({ frames := 13, cells := 153, slots := 917, locals := 420 }) [] H kNo 153 917 (fun r9 _ => r9 = 1) := by
  refine kof (cc := cL_cut) (maxL := 1) (ret := (some .boolean)) (by decide) rfl (Nat.le_of_ble_eq_true rfl) ?_
  intro p e s m below meth c ls S hr hlocks hin hH hE hl
  subst hH
  have S : CallFix p m c cL_cut 1 s _ wsL_cut RL := S
  have hx := S.1
  have hb := S.2.1
  have hown : s.vm.findClass RL = some m.cls := S.2.2.2.1
  have hts := S.2.2.2.2
  have hK := hE.1
  have hS : va_S (kGe s.heap.size) s.heap s.heap [] := va_S.rf
  have hAb : ∀ q, kGe s.heap.size q → kHi ε q := fun q h => Nat.le_trans hlo h
  have hl : lv_has ls 1 [] := hl
  refine kr_new (T := TX4) (N := 7) (ci := 5) (fs := [.null, .null, .null, .null, .int 0, .int 0, .int 0]) hx hb hts hown hK hS rfl kin_L_cut_X4 tyX4 tyX4_ok (by decide +kernel) (by decide +kernel) (by decide +kernel) (dvX4) (Nat.le_of_ble_eq_true rfl) (Nat.le_of_ble_eq_true rfl) dL_cut_0 (fun H1 hN ha hS => ?_)
  have z1 := hN.1
  refine lv_dup hx hb dL_cut_3 rfl ?_
  refine kgo_v (kc_I (As := []) (rest := [.ref s.heap.size]) S hE hS hAb (ci_mesh ε l hlo (by omega) ha) (cwI 0 hts gL_cut_X4_init rfl rfl rfl (hts (.initialized RX4) (by decide +kernel)) (hts (.methodLink RL 104 yX4_init) (by decide +kernel)) (hts (.instanceMethod yX4_init) (by decide +kernel)) rfl (by decide +kernel) ⟨Nat.le_of_ble_eq_true rfl, Nat.le_of_ble_eq_true rfl⟩) rfl hl.1 rfl (Nat.le_of_ble_eq_true rfl) dL_cut_4 ⟨Nat.le_of_ble_eq_true rfl, Nat.le_of_ble_eq_true rfl⟩) hS (fun q h => Or.elim (show q = s.heap.size ∨ H1.size ≤ q from h) (fun h => Nat.le_of_eq h.symm) (fun h => Nat.le_trans (by omega) h)) (fun H2 locs hp zz2 qq2 hS => ?_)
  obtain ⟨q2, hw⟩ := hp
  refine lv_astore_n (lv' := [(0, .ref s.heap.size)]) hx hb dL_cut_7 rfl hl (by decide) rfl (fun ls hl => ?_)
  have hw : kW ε (kGe s.heap.size) (kad0 ε s.heap.size q2) sC_0 H2 := hw.wk (fun k i h => Or.elim (show _ = s.heap.size ∨ H1.size ≤ _ from (hw.1 k i h).2) (fun h => Nat.le_of_eq h.symm) (fun h => Nat.le_trans (by omega) h))
  refine W.widen (k := 5) (n := 19) (Nat.le_of_ble_eq_true rfl) (Nat.le_of_ble_eq_true rfl) ?_
  refine sgC_0 S hE hst hlo hw hS hl (fun ad H3 locs ls hw hS hl => ?_)
  refine sgC_1 S hE hst hlo hw hS hl (fun ad H3 locs ls hw hS hl => ?_)
  refine sgC_2 S hE hst hlo hw hS hl (fun ad H3 locs ls hw hS hl => ?_)
  refine sgC_3 S hE hst hlo hw hS hl (fun ad H3 locs ls hw hS hl => ?_)
  refine va_forget (fun q hq => hS.2.2 q hq) ?_
  have hS9 : va_S kNo s.heap H3 [] := ⟨hS.1, fun q h1 _ => hS.2.1 q h1 (fun h => absurd h1 (Nat.not_lt.mpr h)), fun _ h => by cases h⟩
  refine lv_iconst (v := 1) hx hb dL_cut_592 (by decide) ?_
  refine lv_goto (tgt := 597) hx hb dL_cut_593 (by decide) ?_
  refine kend_z S hr hlocks hS9 rfl (Or.inr rfl) dL_cut_597
