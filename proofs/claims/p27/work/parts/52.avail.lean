set_option maxHeartbeats 4000000 in
set_option maxRecDepth 100000 in
theorem cp_availability (ε : kEnv) (l : Launch) {A : Nat → Prop} {ad : Nat → Nat → Nat} {σ : kS} {H : Heap} {i : Nat} (hw : kW ε A ad σ H) (hB : kB σ) (hc0 : i < σ 2 0) (h0 : σ 27 i ≠ 0) (h27 : σ 27 i < 2 ^ 31) (hnn : vf_n32 (FP.fdiv (FP.i2f (nI (σ 26 i))) (FP.i2f (nI (σ 27 i))))) : kPf ε l yX4_availability wsX4_availability ({ frames := 5, cells := 0, slots := 0, locals := 120 }) [.ref (ad 0 0), .int (nI i)] H (FP.fdiv (FP.i2f (nI (σ 26 i))) (FP.i2f (nI (σ 27 i)))) := by
  refine kof (cc := cX4_availability) (maxL := 3) (ret := (some .float)) (by decide) rfl (Nat.le_of_ble_eq_true rfl) ?_
  intro p e s m below meth c ls S hr hlocks hin hH hE hl
  have S : CallFix p m c cX4_availability 3 s _ wsX4_availability RX4 := S
  have hx := S.1
  have hb := S.2.1
  have hown : s.vm.findClass RX4 = some m.cls := S.2.2.2.1
  have hts := S.2.2.2.2
  have hK := hE.1
  have hS : va_S kNo s.heap H [] := by rw [hH]; exact va_S.rf
  have hAb : ∀ q, kNo q → kHi ε q := fun _ h => h.elim
  have hnR := hB.nR
  have hnC := hB.nC
  have hnW := hB.nW
  have hnA := hB.nA
  have hmn := hB.min
  have hl : lv_has ls 3 [(0, .ref (ad 0 0)), (1, .int (nI i))] := hl
  refine lv_aload_n hx hb dX4_availability_0 rfl (lv_at hl 0 rfl) ?_
  refine lv_iload_n hx hb dX4_availability_1 rfl (lv_at hl 1 rfl) ?_
  refine kgo_pv (kc_V (As := [.int (nI i)]) (rest := []) S hE hS hAb (cc_requireCheck ε l hw hB hc0) (cwV 1 hts gX4_availability_X4_requireCheck rfl rfl rfl (by decide +kernel) ⟨Nat.le_of_ble_eq_true rfl, Nat.le_of_ble_eq_true rfl⟩) (hw.lv 0 0 (rfl : (0 : Nat) = 0)) rfl rfl hl.1 rfl (Nat.le_of_ble_eq_true rfl) dX4_availability_2 ⟨Nat.zero_le _, Nat.zero_le _⟩) hS (fun locs hS => ?_)
  refine lv_aload_n hx hb dX4_availability_5 rfl (lv_at hl 0 rfl) ?_
  refine kr_get (T := TX4) (N := 7) hx hb hts hown hK (hw.lv 0 0 (rfl : (0 : Nat) = 0)) rfl kin_X4_availability_X4 1 (by decide) (by decide +kernel) rfl dX4_availability_6 ?_
  refine lv_iload_n hx hb dX4_availability_9 rfl (lv_at hl 1 rfl) ?_
  refine kgo_pr (v := ad 4 i) (kc_V (As := [.int (nI i)]) (rest := []) S hE hS hAb (kw_get l hw hB 1 (by decide) (j := i) (x := ad 4 i) hc0 rfl) (cwV 1 hts gX4_availability_Jx4a65c_get_915e3 rfl rfl rfl (by decide +kernel) ⟨Nat.le_of_ble_eq_true rfl, Nat.le_of_ble_eq_true rfl⟩) (hw.lv 1 1 (by decide : (1 : Nat) < 4)) rfl rfl hl.1 rfl (Nat.le_of_ble_eq_true rfl) dX4_availability_10 ⟨Nat.zero_le _, Nat.zero_le _⟩) hS (fun locs hS => ?_)
  refine kr_cast (T := TX1) (N := 13) hx hb hts hown hK (hw.lv 4 i hc0) rfl (by decide +kernel) dX4_availability_13 ?_
  refine lv_astore_n (lv' := [(2, .ref (ad 4 i)), (0, .ref (ad 0 0)), (1, .int (nI i))]) hx hb dX4_availability_16 rfl hl (by decide) rfl (fun ls hl => ?_)
  refine lv_aload_n hx hb dX4_availability_17 rfl (lv_at hl 0 rfl) ?_
  refine kr_get (T := TX1) (N := 13) hx hb hts hown hK (hw.lv 4 i hc0) rfl kin_X4_availability_X1 12 (by decide) (by decide +kernel) rfl dX4_availability_18 ?_
  refine lv_if_ne (tgt := 34) hx hb dX4_availability_21 (by decide) (fun _ => ?_) (fun hc => absurd hc (nI_ne0 (by omega) (by omega)))
  refine lv_aload_n hx hb dX4_availability_34 rfl (lv_at hl 0 rfl) ?_
  refine kr_get (T := TX1) (N := 13) hx hb hts hown hK (hw.lv 4 i hc0) rfl kin_X4_availability_X1 11 (by decide) (by decide +kernel) rfl dX4_availability_35 ?_
  refine lv_i2f hx hb dX4_availability_38 ?_
  refine lv_aload_n hx hb dX4_availability_39 rfl (lv_at hl 0 rfl) ?_
  refine kr_get (T := TX1) (N := 13) hx hb hts hown hK (hw.lv 4 i hc0) rfl kin_X4_availability_X1 12 (by decide) (by decide +kernel) rfl dX4_availability_40 ?_
  refine lv_i2f hx hb dX4_availability_43 ?_
  refine lv_fdiv hx hb dX4_availability_44 hnn ?_
  refine kend_f S hr hlocks hS ⟨rfl, rfl⟩ dX4_availability_45
