theorem kin_X1_takeSuccess_X1 : ∀ w ∈ wsX10, w ∈ wsX1_takeSuccess := by decide +kernel
theorem kin_X1_takeFailure_X1 : ∀ w ∈ wsX10, w ∈ wsX1_takeFailure := by decide +kernel
theorem kin_X1_judge_X1 : ∀ w ∈ wsX10, w ∈ wsX1_judge := by decide +kernel
set_option maxHeartbeats 4000000 in
set_option maxRecDepth 100000 in
theorem cc_takeS (ε : kEnv) (l : Launch) {A : Nat → Prop} {ad : Nat → Nat → Nat} {σ : kS} {H : Heap} {i r : Nat} (hAb : ∀ q, A q → kHi ε q) (hw : kW ε A ad σ H) (hB : kB σ) (hi : i < σ 2 0) (hr6 : r < 6) : kMv ε l yX1_takeSuccess wsX1_takeSuccess ({ frames := 0, cells := 0, slots := 0, locals := 0 }) [.ref (ad 4 i), .int (nI r)] H A (0) (0) (fun H' => kW ε A ad (kTakeS σ i r) H') := by
  refine kof (cc := cX1_takeSuccess) (maxL := 2) (ret := none) (by decide) rfl (Nat.le_of_ble_eq_true rfl) ?_
  intro p e s m below meth c ls S hr hlocks hin hH hE hl
  have S : CallFix p m c cX1_takeSuccess 2 s _ wsX1_takeSuccess RX1 := S
  have hx := S.1
  have hb := S.2.1
  have hown : s.vm.findClass RX1 = some m.cls := S.2.2.2.1
  have hts := S.2.2.2.2
  have hK := hE.1
  have hS : va_S A s.heap H [] := by rw [hH]; exact va_S.rf
  have hl : lv_has ls 2 [(0, .ref (ad 4 i)), (1, .int (nI r))] := hl
  refine lv_aload_n hx hb dX1_takeSuccess_0 rfl (lv_at hl 0 rfl) ?_
  refine kr_get (T := TX1) (N := 13) hx hb hts hown hK (hw.lv 4 i hi) rfl kin_X1_takeSuccess_X1 7 (by decide) (by decide +kernel) rfl dX1_takeSuccess_1 ?_
  refine lv_iload_n hx hb dX1_takeSuccess_4 rfl (lv_at hl 1 rfl) ?_
  refine lv_iconst (v := 0) hx hb dX1_takeSuccess_5 (by decide) ?_
  refine kr_ist hx hb hK hS (hw.lv 6 i hi) (hw.1 6 i hi).2 (j := r) (x := nI 0) hr6 (nI_clamp (ks31 hr6)) (nI_pos (ks31 hr6)) dX1_takeSuccess_6 (fun H1 locs hU ho hS => ?_)
  have hw := kw_p32 (v := 0) hw hi hr6 hU ho
  clear hU ho
  refine lv_aload_n hx hb dX1_takeSuccess_7 rfl (lv_at hl 0 rfl) ?_
  refine kr_get (T := TX1) (N := 13) hx hb hts hown hK (hw.lv 4 i hi) rfl kin_X1_takeSuccess_X1 6 (by decide) (by decide +kernel) rfl dX1_takeSuccess_8 ?_
  refine lv_iload_n hx hb dX1_takeSuccess_11 rfl (lv_at hl 1 rfl) ?_
  refine lv_iconst (v := 1) hx hb dX1_takeSuccess_12 (by decide) ?_
  refine kr_ist hx hb hK hS (hw.lv 5 i hi) (hw.1 5 i hi).2 (j := r) (x := nI 1) hr6 (nI_clamp (ks31 hr6)) (nI_pos (ks31 hr6)) dX1_takeSuccess_13 (fun H1 locs hU ho hS => ?_)
  have hw := kw_p31 (v := 1) hw hi hr6 hU ho
  clear hU ho
  refine kend_v S hr hlocks hS hw dX1_takeSuccess_14
