set_option maxHeartbeats 4000000 in
set_option maxRecDepth 100000 in
theorem cp_availability (ε : kEnv) (l : Launch) {A : Nat → Prop} {ad : Nat → Nat → Nat} {σ : kS} {H : Heap} {i : Nat} (hw : kW ε A ad σ H) (hB : kB σ) (hc0 : i < σ 2 0) (h26 : σ 26 i ≤ 2 ^ 24) (h27 : σ 27 i ≤ 2 ^ 24) (h0 : σ 27 i ≠ 0) : kPf ε l yX4_availability wsX4_availability ({ frames := 5, cells := 0, slots := 0, locals := 120 }) [.ref (ad 0 0), .int (nI i)] H (FP.fdiv (FP.i2f (nI (σ 26 i))) (FP.i2f (nI (σ 27 i)))) := by
  refine kof (cc := cX4_availability) (maxL := 3) (ret := (some .float)) (by decide) rfl (Nat.le_of_ble_eq_true rfl) ?_
  intro p e s m below meth c ls S hr hlocks hin hH hE hl
  have S : CallFix p m c cX4_availability 3 s _ wsX4_availability RX4 := S
  have hx := S.1
  have hb := S.2.1
  have hown : s.vm.findClass RX4 = some m.cls := S.2.2.2.1
  have hts := S.2.2.2.2
  have hK := hE.1
  have hS : va_S kNo s.heap H [] := by rw [hH]; exact va_S.rf
  have hAb : ∀ q, kNo q → kHi ε q := fun _ h => h.elim
  have hnR := hB.nR
  have hnC := hB.nC
  have hnW := hB.nW
  have hnA := hB.nA
  have hmn := hB.min
  have hl : lv_has ls 3 [(0, .ref (ad 0 0)), (1, .int (nI i))] := hl
  refine lv_aload_n hx hb dX4_availability_0 rfl (lv_at hl 0 rfl) ?_
  refine lv_iload_n hx hb dX4_availability_1 rfl (lv_at hl 1 rfl) ?_
  refine kgo_pv (kc_V (As := [.int (nI i)]) (rest := []) S hE hS hAb (cc_requireCheck ε l hw hB hc0) (cwV 1 hts gX4_availability_X4_requireCheck rfl rfl rfl (by decide +kernel) ⟨Nat.le_of_ble_eq_true rfl, Nat.le_of_ble_eq_true rfl⟩) (hw.lv 0 0 (rfl : (0 : Nat) = 0)) rfl rfl hl.1 rfl (Nat.le_of_ble_eq_true rfl) dX4_availability_2 ⟨Nat.zero_le _, Nat.zero_le _⟩) hS (fun locs hS => ?_)
  refine lv_aload_n hx hb dX4_availability_5 rfl (lv_at hl 0 rfl) ?_
  refine kr_get (T := TX4) (N := 7) hx hb hts hown hK (hw.lv 0 0 (rfl : (0 : Nat) = 0)) rfl kin_X4_availability_X4 1 (by decide) (by decide +kernel) rfl dX4_availability_6 ?_
  refine lv_iload_n hx hb dX4_availability_9 rfl (lv_at hl 1 rfl) ?_
  refine kgo_pr (v := ad 4 i) (kc_V (As := [.int (nI i)]) (rest := []) S hE hS hAb (kw_get l hw hB 1 (by decide) (j := i) (x := ad 4 i) hc0 rfl) (cwV 1 hts gX4_availability_Jx4a65c_get_915e3 rfl rfl rfl (by decide +kernel) ⟨Nat.le_of_ble_eq_true rfl, Nat.le_of_ble_eq_true rfl⟩) (hw.lv 1 1 (by decide : (1 : Nat) < 4)) rfl rfl hl.1 rfl (Nat.le_of_ble_eq_true rfl) dX4_availability_10 ⟨Nat.zero_le _, Nat.zero_le _⟩) hS (fun locs hS => ?_)
  refine kr_cast (T := TX1) (N := 13) hx hb hts hown hK (hw.lv 4 i hc0) rfl (by decide +kernel) dX4_availability_13 ?_
  refine lv_astore_n (lv' := [(2, .ref (ad 4 i)), (0, .ref (ad 0 0)), (1, .int (nI i))]) hx hb dX4_availability_16 rfl hl (by decide) rfl (fun ls hl => ?_)
  refine lv_aload_n hx hb dX4_availability_17 rfl (lv_at hl 0 rfl) ?_
  refine kr_get (T := TX1) (N := 13) hx hb hts hown hK (hw.lv 4 i hc0) rfl kin_X4_availability_X1 12 (by decide) (by decide +kernel) rfl dX4_availability_18 ?_
  refine lv_if_ne (tgt := 34) hx hb dX4_availability_21 (by decide) (fun _ => ?_) (fun hc => absurd hc (nI_ne0 (by omega) (by omega)))
  refine lv_aload_n hx hb dX4_availability_34 rfl (lv_at hl 0 rfl) ?_
  refine kr_get (T := TX1) (N := 13) hx hb hts hown hK (hw.lv 4 i hc0) rfl kin_X4_availability_X1 11 (by decide) (by decide +kernel) rfl dX4_availability_35 ?_
  refine lv_i2f hx hb dX4_availability_38 ?_
  refine lv_aload_n hx hb dX4_availability_39 rfl (lv_at hl 0 rfl) ?_
  refine kr_get (T := TX1) (N := 13) hx hb hts hown hK (hw.lv 4 i hc0) rfl kin_X4_availability_X1 12 (by decide) (by decide +kernel) rfl dX4_availability_40 ?_
  refine lv_i2f hx hb dX4_availability_43 ?_
  refine lv_fdiv hx hb dX4_availability_44 (kf_div h26 h27 (by omega)) ?_
  refine kend_f S hr hlocks hS ⟨rfl, rfl⟩ dX4_availability_45
theorem kin_X5_availability_X5 : ∀ w ∈ wsX50, w ∈ wsX5_availability := by decide +kernel
set_option maxHeartbeats 4000000 in
set_option maxRecDepth 100000 in
theorem cm_availability (ε : kEnv) (l : Launch) {A : Nat → Prop} {bd : Nat → Nat} {τ : kS} {H : Heap} {i : Nat} (hAb : ∀ q, A q → kHi ε q) (hm : kM ε A bd τ H) (hB : mB τ) (hi : i < τ 32 0) (h12 : τ 12 i ≤ 2 ^ 24) (h13 : τ 13 i ≤ 2 ^ 24) (h0 : τ 13 i ≠ 0) : kMf ε l yX5_availability wsX5_availability ({ frames := 6, cells := 0, slots := 0, locals := 140 }) [.ref (bd 0), .int (nI i)] H A (0) (0) (fun v9 H' => v9 = FP.fdiv (FP.i2f (nI (τ 12 i))) (FP.i2f (nI (τ 13 i))) ∧ kM ε A bd (mT τ 0) H') := by
  refine kof (cc := cX5_availability) (maxL := 4) (ret := (some .float)) (by decide) rfl (Nat.le_of_ble_eq_true rfl) ?_
  intro p e s m below meth c ls S hr hlocks hin hH hE hl
  have S : CallFix p m c cX5_availability 4 s _ wsX5_availability RX5 := S
  have hx := S.1
  have hb := S.2.1
  have hown : s.vm.findClass RX5 = some m.cls := S.2.2.2.1
  have hts := S.2.2.2.2
  have hK := hE.1
  have hS : va_S A s.heap H [] := by rw [hH]; exact va_S.rf
  have hl : lv_has ls 4 [(0, .ref (bd 0)), (1, .int (nI i))] := hl
  have hnR := hB.nR
  have hnC := hB.nC
  have hnW := hB.nW
  have hnA := hB.nA
  have hmn := hB.min
  refine lv_aload_n hx hb dX5_availability_0 rfl (lv_at hl 0 rfl) ?_
  refine lv_aload_n hx hb dX5_availability_1 rfl (lv_at hl 0 rfl) ?_
  refine lv_iload_n hx hb dX5_availability_2 rfl (lv_at hl 1 rfl) ?_
  refine kgo_pi (v := 1) (kc_V (As := [.int (nI i)]) (rest := [.ref (bd 0)]) S hE hS hAb (cm_isCheckT ε l hm hB hi) (cwV 1 hts gX5_availability_X5_isCheck rfl rfl rfl (by decide +kernel) ⟨Nat.le_of_ble_eq_true rfl, Nat.le_of_ble_eq_true rfl⟩) (hm.lv 0 (by decide)) rfl rfl hl.1 rfl (Nat.le_of_ble_eq_true rfl) dX5_availability_3 ⟨Nat.zero_le _, Nat.zero_le _⟩) hS (fun locs hS => ?_)
  refine lv_if_ne (tgt := 13) hx hb dX5_availability_6 (by decide) (fun _ => ?_) (fun hc => absurd hc (by decide))
  refine lv_aload_n hx hb dX5_availability_13 rfl (lv_at hl 0 rfl) ?_
  refine kr_get (T := TX5) (N := 28) hx hb hts hown hK (hm.lv 0 (by decide)) rfl kin_X5_availability_X5 15 (by decide) (by decide +kernel) rfl dX5_availability_14 ?_
  refine lv_iload_n hx hb dX5_availability_17 rfl (lv_at hl 1 rfl) ?_
  refine kr_ild hx hb hK (hm.lv 13 (by decide)) (j := i) ((show i < 8 by omega)) (nI_clamp (ks31 ((show i < 8 by omega)))) (nI_pos (ks31 ((show i < 8 by omega)))) (x := nI (τ 13 i)) rfl dX5_availability_18 ?_
  refine lv_if_ne (tgt := 26) hx hb dX5_availability_19 (by decide) (fun _ => ?_) (fun hc => absurd hc (nI_ne0 (by omega) (by omega)))
  refine lv_iconst (v := 0) hx hb dX5_availability_26 (by decide) ?_
  refine kr_top (y := nI 0) (rfl) ?_
  refine kr_put (T := TX5) (N := 28) (v := .int (nI 0)) (ty := .int) hx hb hts hown hK hS (hm.lv 0 (by decide)) (hm.1 0 (by decide)).2 rfl kin_X5_availability_X5 tyX5 tyX5_ok nmX5 27 (by decide) "ProbewebModel" (hts (.fieldLink RX5 78 "ProbewebModel" "thrown" "I") (by decide +kernel)) (fun _ h => h) rfl (by decide +kernel) rfl rfl (Nat.le_of_ble_eq_true rfl) dX5_availability_27 (fun H1 locs hU ho hS => ?_)
  have hm := km_p35 (v := 0) hm hU ho
  clear hU ho
  have hB : mB (mT τ 0) := hB
  refine lv_aload_n hx hb dX5_availability_30 rfl (lv_at hl 0 rfl) ?_
  refine kr_get (T := TX5) (N := 28) hx hb hts hown hK (hm.lv 0 (by decide)) rfl kin_X5_availability_X5 27 (by decide) (by decide +kernel) rfl dX5_availability_31 ?_
  refine kr_top (y := 0) (rfl) ?_
  refine lv_if_le (tgt := 39) hx hb dX5_availability_34 (by decide) (fun _ => ?_) (fun hc => absurd (by decide) hc)
  refine lv_aload_n hx hb dX5_availability_39 rfl (lv_at hl 0 rfl) ?_
  refine kr_get (T := TX5) (N := 28) hx hb hts hown hK (hm.lv 0 (by decide)) rfl kin_X5_availability_X5 14 (by decide) (by decide +kernel) rfl dX5_availability_40 ?_
  refine lv_iload_n hx hb dX5_availability_43 rfl (lv_at hl 1 rfl) ?_
  refine kr_ild hx hb hK (hm.lv 12 (by decide)) (j := i) ((show i < 8 by omega)) (nI_clamp (ks31 ((show i < 8 by omega)))) (nI_pos (ks31 ((show i < 8 by omega)))) (x := nI ((ku τ 35 0 0) 12 i)) rfl dX5_availability_44 ?_
  refine kr_top (y := nI (τ 12 i)) (rfl) ?_
  refine lv_i2f hx hb dX5_availability_45 ?_
  refine lv_fstore_n (lv' := [(2, .float (FP.i2f (nI (τ 12 i)))), (0, .ref (bd 0)), (1, .int (nI i))]) hx hb dX5_availability_46 rfl hl (by decide) rfl (fun ls hl => ?_)
  refine lv_aload_n hx hb dX5_availability_47 rfl (lv_at hl 1 rfl) ?_
  refine kr_get (T := TX5) (N := 28) hx hb hts hown hK (hm.lv 0 (by decide)) rfl kin_X5_availability_X5 15 (by decide) (by decide +kernel) rfl dX5_availability_48 ?_
  refine lv_iload_n hx hb dX5_availability_51 rfl (lv_at hl 2 rfl) ?_
  refine kr_ild hx hb hK (hm.lv 13 (by decide)) (j := i) ((show i < 8 by omega)) (nI_clamp (ks31 ((show i < 8 by omega)))) (nI_pos (ks31 ((show i < 8 by omega)))) (x := nI ((ku τ 35 0 0) 13 i)) rfl dX5_availability_52 ?_
  refine kr_top (y := nI (τ 13 i)) (rfl) ?_
  refine lv_i2f hx hb dX5_availability_53 ?_
  refine lv_fstore_n (lv' := [(3, .float (FP.i2f (nI (τ 13 i)))), (2, .float (FP.i2f (nI (τ 12 i)))), (0, .ref (bd 0)), (1, .int (nI i))]) hx hb dX5_availability_54 rfl hl (by decide) rfl (fun ls hl => ?_)
  refine lv_fload_n hx hb dX5_availability_55 rfl (lv_at hl 1 rfl) ?_
  refine lv_fload_n hx hb dX5_availability_56 rfl (lv_at hl 0 rfl) ?_
  refine lv_fdiv hx hb dX5_availability_57 (kf_div h12 h13 (by omega)) ?_
  refine kend_f S hr hlocks hS ⟨rfl, hm⟩ dX5_availability_58
set_option maxHeartbeats 4000000 in
set_option maxRecDepth 100000 in
theorem cm_availabilityX1 (ε : kEnv) (l : Launch) {A : Nat → Prop} {bd : Nat → Nat} {τ : kS} {H : Heap} {x : Int32} (hAb : ∀ q, A q → kHi ε q) (hm : kM ε A bd τ H) (hB : mB τ) (h : x < 0 ∨ nI (τ 32 0) ≤ x) : kMf ε l yX5_availability wsX5_availability ({ frames := 6, cells := 0, slots := 0, locals := 140 }) [.ref (bd 0), .int x] H A (0) (0) (fun v9 H' => v9 = FP.fconst0 ∧ kM ε A bd (mT τ 1) H') := by
  refine kof (cc := cX5_availability) (maxL := 4) (ret := (some .float)) (by decide) rfl (Nat.le_of_ble_eq_true rfl) ?_
  intro p e s m below meth c ls S hr hlocks hin hH hE hl
  have S : CallFix p m c cX5_availability 4 s _ wsX5_availability RX5 := S
  have hx := S.1
  have hb := S.2.1
  have hown : s.vm.findClass RX5 = some m.cls := S.2.2.2.1
  have hts := S.2.2.2.2
  have hK := hE.1
  have hS : va_S A s.heap H [] := by rw [hH]; exact va_S.rf
  have hl : lv_has ls 4 [(0, .ref (bd 0)), (1, .int x)] := hl
  have hnR := hB.nR
  have hnC := hB.nC
  have hnW := hB.nW
  have hnA := hB.nA
  have hmn := hB.min
  refine lv_aload_n hx hb dX5_availability_0 rfl (lv_at hl 0 rfl) ?_
  refine lv_aload_n hx hb dX5_availability_1 rfl (lv_at hl 0 rfl) ?_
  refine lv_iload_n hx hb dX5_availability_2 rfl (lv_at hl 1 rfl) ?_
  refine kgo_pi (v := 0) (kc_V (As := [.int x]) (rest := [.ref (bd 0)]) S hE hS hAb (cm_isCheckF ε l hm hB h) (cwV 1 hts gX5_availability_X5_isCheck rfl rfl rfl (by decide +kernel) ⟨Nat.le_of_ble_eq_true rfl, Nat.le_of_ble_eq_true rfl⟩) (hm.lv 0 (by decide)) rfl rfl hl.1 rfl (Nat.le_of_ble_eq_true rfl) dX5_availability_3 ⟨Nat.zero_le _, Nat.zero_le _⟩) hS (fun locs hS => ?_)
  refine lv_if_ne (tgt := 13) hx hb dX5_availability_6 (by decide) (fun hc => absurd (by decide) hc) (fun _ => ?_)
  refine lv_iconst (v := 1) hx hb dX5_availability_9 (by decide) ?_
  refine lv_goto (tgt := 27) hx hb dX5_availability_10 (by decide) ?_
  refine kr_top (y := nI 1) (rfl) ?_
  refine kr_put (T := TX5) (N := 28) (v := .int (nI 1)) (ty := .int) hx hb hts hown hK hS (hm.lv 0 (by decide)) (hm.1 0 (by decide)).2 rfl kin_X5_availability_X5 tyX5 tyX5_ok nmX5 27 (by decide) "ProbewebModel" (hts (.fieldLink RX5 78 "ProbewebModel" "thrown" "I") (by decide +kernel)) (fun _ h => h) rfl (by decide +kernel) rfl rfl (Nat.le_of_ble_eq_true rfl) dX5_availability_27 (fun H1 locs hU ho hS => ?_)
  have hm := km_p35 (v := 1) hm hU ho
  clear hU ho
  have hB : mB (mT τ 1) := hB
  refine lv_aload_n hx hb dX5_availability_30 rfl (lv_at hl 0 rfl) ?_
  refine kr_get (T := TX5) (N := 28) hx hb hts hown hK (hm.lv 0 (by decide)) rfl kin_X5_availability_X5 27 (by decide) (by decide +kernel) rfl dX5_availability_31 ?_
  refine kr_top (y := 1) (rfl) ?_
  refine lv_if_le (tgt := 39) hx hb dX5_availability_34 (by decide) (fun hc => absurd hc (by decide)) (fun _ => ?_)
  refine lv_fconst0 hx hb dX5_availability_37 ?_
  refine kend_f S hr hlocks hS ⟨rfl, hm⟩ dX5_availability_38
set_option maxHeartbeats 4000000 in
set_option maxRecDepth 100000 in
theorem cm_availabilityX2 (ε : kEnv) (l : Launch) {A : Nat → Prop} {bd : Nat → Nat} {τ : kS} {H : Heap} {i : Nat} (hAb : ∀ q, A q → kHi ε q) (hm : kM ε A bd τ H) (hB : mB τ) (hi : i < τ 32 0) (h0 : τ 13 i = 0) : kMf ε l yX5_availability wsX5_availability ({ frames := 6, cells := 0, slots := 0, locals := 140 }) [.ref (bd 0), .int (nI i)] H A (0) (0) (fun v9 H' => v9 = FP.fconst0 ∧ kM ε A bd (mT τ 2) H') := by
  refine kof (cc := cX5_availability) (maxL := 4) (ret := (some .float)) (by decide) rfl (Nat.le_of_ble_eq_true rfl) ?_
  intro p e s m below meth c ls S hr hlocks hin hH hE hl
  have S : CallFix p m c cX5_availability 4 s _ wsX5_availability RX5 := S
  have hx := S.1
  have hb := S.2.1
  have hown : s.vm.findClass RX5 = some m.cls := S.2.2.2.1
  have hts := S.2.2.2.2
  have hK := hE.1
  have hS : va_S A s.heap H [] := by rw [hH]; exact va_S.rf
  have hl : lv_has ls 4 [(0, .ref (bd 0)), (1, .int (nI i))] := hl
  have hnR := hB.nR
  have hnC := hB.nC
  have hnW := hB.nW
  have hnA := hB.nA
  have hmn := hB.min
  refine lv_aload_n hx hb dX5_availability_0 rfl (lv_at hl 0 rfl) ?_
  refine lv_aload_n hx hb dX5_availability_1 rfl (lv_at hl 0 rfl) ?_
  refine lv_iload_n hx hb dX5_availability_2 rfl (lv_at hl 1 rfl) ?_
  refine kgo_pi (v := 1) (kc_V (As := [.int (nI i)]) (rest := [.ref (bd 0)]) S hE hS hAb (cm_isCheckT ε l hm hB hi) (cwV 1 hts gX5_availability_X5_isCheck rfl rfl rfl (by decide +kernel) ⟨Nat.le_of_ble_eq_true rfl, Nat.le_of_ble_eq_true rfl⟩) (hm.lv 0 (by decide)) rfl rfl hl.1 rfl (Nat.le_of_ble_eq_true rfl) dX5_availability_3 ⟨Nat.zero_le _, Nat.zero_le _⟩) hS (fun locs hS => ?_)
  refine lv_if_ne (tgt := 13) hx hb dX5_availability_6 (by decide) (fun _ => ?_) (fun hc => absurd hc (by decide))
  refine lv_aload_n hx hb dX5_availability_13 rfl (lv_at hl 0 rfl) ?_
  refine kr_get (T := TX5) (N := 28) hx hb hts hown hK (hm.lv 0 (by decide)) rfl kin_X5_availability_X5 15 (by decide) (by decide +kernel) rfl dX5_availability_14 ?_
  refine lv_iload_n hx hb dX5_availability_17 rfl (lv_at hl 1 rfl) ?_
  refine kr_ild hx hb hK (hm.lv 13 (by decide)) (j := i) ((show i < 8 by omega)) (nI_clamp (ks31 ((show i < 8 by omega)))) (nI_pos (ks31 ((show i < 8 by omega)))) (x := nI (τ 13 i)) rfl dX5_availability_18 ?_
  refine lv_if_ne (tgt := 26) hx hb dX5_availability_19 (by decide) (fun hc => absurd (show nI (τ 13 i) = 0 by rw [h0]; rfl) hc) (fun _ => ?_)
  refine lv_iconst (v := 2) hx hb dX5_availability_22 (by decide) ?_
  refine lv_goto (tgt := 27) hx hb dX5_availability_23 (by decide) ?_
  refine kr_top (y := nI 2) (rfl) ?_
  refine kr_put (T := TX5) (N := 28) (v := .int (nI 2)) (ty := .int) hx hb hts hown hK hS (hm.lv 0 (by decide)) (hm.1 0 (by decide)).2 rfl kin_X5_availability_X5 tyX5 tyX5_ok nmX5 27 (by decide) "ProbewebModel" (hts (.fieldLink RX5 78 "ProbewebModel" "thrown" "I") (by decide +kernel)) (fun _ h => h) rfl (by decide +kernel) rfl rfl (Nat.le_of_ble_eq_true rfl) dX5_availability_27 (fun H1 locs hU ho hS => ?_)
  have hm := km_p35 (v := 2) hm hU ho
  clear hU ho
  have hB : mB (mT τ 2) := hB
  refine lv_aload_n hx hb dX5_availability_30 rfl (lv_at hl 0 rfl) ?_
  refine kr_get (T := TX5) (N := 28) hx hb hts hown hK (hm.lv 0 (by decide)) rfl kin_X5_availability_X5 27 (by decide) (by decide +kernel) rfl dX5_availability_31 ?_
  refine kr_top (y := 2) (rfl) ?_
  refine lv_if_le (tgt := 39) hx hb dX5_availability_34 (by decide) (fun hc => absurd hc (by decide)) (fun _ => ?_)
  refine lv_fconst0 hx hb dX5_availability_37 ?_
  refine kend_f S hr hlocks hS ⟨rfl, hm⟩ dX5_availability_38
