theorem dvJx4a65c : ∀ j, j < 3 → defaultValue (tyJx4a65c j) = vp_V [.int 0, .null, .int 0] j
  | 0, _ => rfl
  | 1, _ => rfl
  | 2, _ => rfl
  | n + 3, h => absurd h (by omega)
theorem dvX0 : ∀ j, j < 3 → defaultValue (tyX0 j) = vp_V [.int 0, .int 0, .int 0] j
  | 0, _ => rfl
  | 1, _ => rfl
  | 2, _ => rfl
  | n + 3, h => absurd h (by omega)
theorem dvX1 : ∀ j, j < 13 → defaultValue (tyX1 j) = vp_V [.int 0, .int 0, .int 0, .int 0, .int 0, .int 0, .null, .null, .null, .int 0, .null, .int 0, .int 0] j
  | 0, _ => rfl
  | 1, _ => rfl
  | 2, _ => rfl
  | 3, _ => rfl
  | 4, _ => rfl
  | 5, _ => rfl
  | 6, _ => rfl
  | 7, _ => rfl
  | 8, _ => rfl
  | 9, _ => rfl
  | 10, _ => rfl
  | 11, _ => rfl
  | 12, _ => rfl
  | n + 13, h => absurd h (by omega)
theorem dvX2 : ∀ j, j < 4 → defaultValue (tyX2 j) = vp_V [.int 0, .int 0, .int 0, .int 0] j
  | 0, _ => rfl
  | 1, _ => rfl
  | 2, _ => rfl
  | 3, _ => rfl
  | n + 4, h => absurd h (by omega)
theorem dvX3 : ∀ j, j < 3 → defaultValue (tyX3 j) = vp_V [.int 0, .int 0, .int 0] j
  | 0, _ => rfl
  | 1, _ => rfl
  | 2, _ => rfl
  | n + 3, h => absurd h (by omega)
theorem dvX4 : ∀ j, j < 7 → defaultValue (tyX4 j) = vp_V [.null, .null, .null, .null, .int 0, .int 0, .int 0] j
  | 0, _ => rfl
  | 1, _ => rfl
  | 2, _ => rfl
  | 3, _ => rfl
  | 4, _ => rfl
  | 5, _ => rfl
  | 6, _ => rfl
  | n + 7, h => absurd h (by omega)
theorem ci_coll (ε : kEnv) (l : Launch) {H : Heap} {x : Nat}  : kPv ε l yJxa1e45_init_da8c8 wsJxa1e45_init_da8c8 ({ frames := 1, cells := 0, slots := 0, locals := 12 }) [.ref x] H := by
  refine kof (cc := cJxa1e45_init_da8c8) (maxL := 1) (ret := none) (by decide) rfl (Nat.le_of_ble_eq_true rfl) ?_
  intro p e s m below meth c ls S hr hlocks hin hH hE hl
  have S : CallFix p m c cJxa1e45_init_da8c8 1 s _ wsJxa1e45_init_da8c8 RJxa1e45 := S
  have hx := S.1
  have hb := S.2.1
  have hown : s.vm.findClass RJxa1e45 = some m.cls := S.2.2.2.1
  have hts := S.2.2.2.2
  have hK := hE.1
  have hS : va_S kNo s.heap H [] := by rw [hH]; exact va_S.rf
  have hAb : ∀ q, kNo q → kHi ε q := fun _ h => h.elim
  have hl : lv_has ls 1 [(0, .ref x)] := hl
  refine lv_aload_n hx hb dJxa1e45_init_da8c8_0 rfl (lv_at hl 0 rfl) ?_
  refine kr_oinit hx hb hown (hts (.methodLink RJxa1e45 1 Lib.objectInit) (by decide +kernel)) (hts (.instanceMethod Lib.objectInit) (by decide +kernel)) (hts (.code Lib.objectInit ⟨#[0xb1]⟩ 1 none) (by decide +kernel)) (hl.1.trans S.2.2.1.symm) dJxa1e45_init_da8c8_1 (Nat.le_of_ble_eq_true rfl) (Nat.le_of_ble_eq_true rfl) ?_
  refine kend_v S hr hlocks hS rfl dJxa1e45_init_da8c8_4
theorem kin_Jxc12de_init_da8c8_Jx4a65c : ∀ w ∈ wsJx4a65c0, w ∈ wsJxc12de_init_da8c8 := by decide +kernel
theorem kin_Jx4a65c_init_da8c8_Jx4a65c : ∀ w ∈ wsJx4a65c0, w ∈ wsJx4a65c_init_da8c8 := by decide +kernel
set_option maxHeartbeats 4000000 in
set_option maxRecDepth 100000 in
theorem ci_abs (ε : kEnv) (l : Launch) {H : Heap} {x : Nat} {u v : Value} {t : Int32} (hbx : ε.2.2.1 ≤ x) (ha : kat ε x (.inr (0, [.int t, u, v])) H) : kMv ε l yJxc12de_init_da8c8 wsJxc12de_init_da8c8 ({ frames := 2, cells := 0, slots := 0, locals := 40 }) [.ref x] H (fun q => q = x) (0) (0) (fun H' => kat ε x (.inr (0, [.int 0, u, v])) H') := by
  refine kof (cc := cJxc12de_init_da8c8) (maxL := 1) (ret := none) (by decide) rfl (Nat.le_of_ble_eq_true rfl) ?_
  intro p e s m below meth c ls S hr hlocks hin hH hE hl
  have S : CallFix p m c cJxc12de_init_da8c8 1 s _ wsJxc12de_init_da8c8 RJxc12de := S
  have hx := S.1
  have hb := S.2.1
  have hown : s.vm.findClass RJxc12de = some m.cls := S.2.2.2.1
  have hts := S.2.2.2.2
  have hK := hE.1
  have hS : va_S (fun q => q = x) s.heap H [] := by rw [hH]; exact va_S.rf
  have hl : lv_has ls 1 [(0, .ref x)] := hl
  have hAb : ∀ q, q = x → kHi ε q := fun q h => h ▸ hbx
  refine lv_aload_n hx hb dJxc12de_init_da8c8_0 rfl (lv_at hl 0 rfl) ?_
  refine kgo_pv (kc_I (As := []) (rest := []) S hE hS hAb (ci_coll ε l) (cwI 0 hts gJxc12de_init_da8c8_Jxa1e45_init_da8c8 rfl rfl rfl (hts (.initialized RJxa1e45) (by decide +kernel)) (hts (.methodLink RJxc12de 1 yJxa1e45_init_da8c8) (by decide +kernel)) (hts (.instanceMethod yJxa1e45_init_da8c8) (by decide +kernel)) rfl (by decide +kernel) ⟨Nat.le_of_ble_eq_true rfl, Nat.le_of_ble_eq_true rfl⟩) rfl hl.1 rfl (Nat.le_of_ble_eq_true rfl) dJxc12de_init_da8c8_1 ⟨Nat.zero_le _, Nat.zero_le _⟩) hS (fun locs hS => ?_)
  refine lv_aload_n hx hb dJxc12de_init_da8c8_4 rfl (lv_at hl 0 rfl) ?_
  refine lv_iconst (v := 0) hx hb dJxc12de_init_da8c8_5 (by decide) ?_
  refine kr_put (T := TJx4a65c) (N := 3) (v := .int 0) (ty := .int) hx hb hts hown hK hS ha (rfl) rfl kin_Jxc12de_init_da8c8_Jx4a65c tyJx4a65c tyJx4a65c_ok nmJx4a65c 0 (by decide) "java/util/AbstractList" (hts (.fieldLink RJxc12de 7 "java/util/AbstractList" "modCount" "I") (by decide +kernel)) (fun _ h => h) rfl (by decide +kernel) rfl rfl (Nat.le_of_ble_eq_true rfl) dJxc12de_init_da8c8_6 (fun H1 locs hU ho hS => ?_)
  have ha : kat ε x (.inr (0, [.int 0, u, v])) H1 := ho
  clear ho hU
  refine kend_v S hr hlocks hS ha dJxc12de_init_da8c8_9
set_option maxHeartbeats 4000000 in
set_option maxRecDepth 100000 in
theorem ci_list (ε : kEnv) (l : Launch) {H : Heap} {x : Nat} (hbx : ε.2.2.1 ≤ x) (ha : kat ε x (.inr (0, [.int 0, .null, .int 0])) H) : kMv ε l yJx4a65c_init_da8c8 wsJx4a65c_init_da8c8 ({ frames := 3, cells := 0, slots := 0, locals := 70 }) [.ref x] H (fun q => q = x) (0) (0) (fun H' => kat ε x (.inr (0, [.int 0, .ref (kz ε), .int 0])) H') := by
  refine kof (cc := cJx4a65c_init_da8c8) (maxL := 1) (ret := none) (by decide) rfl (Nat.le_of_ble_eq_true rfl) ?_
  intro p e s m below meth c ls S hr hlocks hin hH hE hl
  have S : CallFix p m c cJx4a65c_init_da8c8 1 s _ wsJx4a65c_init_da8c8 RJx4a65c := S
  have hx := S.1
  have hb := S.2.1
  have hown : s.vm.findClass RJx4a65c = some m.cls := S.2.2.2.1
  have hts := S.2.2.2.2
  have hK := hE.1
  have hS : va_S (fun q => q = x) s.heap H [] := by rw [hH]; exact va_S.rf
  have hl : lv_has ls 1 [(0, .ref x)] := hl
  have hAb : ∀ q, q = x → kHi ε q := fun q h => h ▸ hbx
  refine lv_aload_n hx hb dJx4a65c_init_da8c8_0 rfl (lv_at hl 0 rfl) ?_
  refine kgo_v (kc_I (As := []) (rest := []) S hE hS hAb (ci_abs ε l hbx ha) (cwI 0 hts gJx4a65c_init_da8c8_Jxc12de_init_da8c8 rfl rfl rfl (hts (.initialized RJxc12de) (by decide +kernel)) (hts (.methodLink RJx4a65c 1 yJxc12de_init_da8c8) (by decide +kernel)) (hts (.instanceMethod yJxc12de_init_da8c8) (by decide +kernel)) rfl (by decide +kernel) ⟨Nat.le_of_ble_eq_true rfl, Nat.le_of_ble_eq_true rfl⟩) rfl hl.1 rfl (Nat.le_of_ble_eq_true rfl) dJx4a65c_init_da8c8_1 ⟨Nat.zero_le _, Nat.zero_le _⟩) hS (fun _ h => h) (fun H1 locs ha hz hq hS => ?_)
  have ha : kat ε x (.inr (0, [.int 0, .null, .int 0])) H1 := ha
  refine lv_aload_n hx hb dJx4a65c_init_da8c8_4 rfl (lv_at hl 0 rfl) ?_
  refine va_gets hx hb (hE.2.2.2.2.2.2.2.1.narrow hAb) hS hown (hts (.fieldLink RJx4a65c 39 RJx4a65c "DEFAULTCAPACITY_EMPTY_ELEMENTDATA" "[Ljava/lang/Object;") (by decide +kernel)) (fun _ h => h) dJx4a65c_init_da8c8_5 ?_
  refine kr_put (T := TJx4a65c) (N := 3) (v := .ref ((kz ε))) (ty := .array (.object "java/lang/Object")) hx hb hts hown hK hS ha (rfl) rfl kin_Jx4a65c_init_da8c8_Jx4a65c tyJx4a65c tyJx4a65c_ok nmJx4a65c 1 (by decide) "java/util/ArrayList" (hts (.fieldLink RJx4a65c 9 "java/util/ArrayList" "elementData" "[Ljava/lang/Object;") (by decide +kernel)) (fun _ h => h) rfl (by decide +kernel) rfl rfl (Nat.le_of_ble_eq_true rfl) dJx4a65c_init_da8c8_8 (fun H2 locs hU ho hS => ?_)
  have ha : kat ε x (.inr (0, [.int 0, .ref ((kz ε)), .int 0])) H2 := ho
  clear ho hU
  refine kend_v S hr hlocks hS ha dJx4a65c_init_da8c8_11
theorem kin_X0_init_X0 : ∀ w ∈ wsX00, w ∈ wsX0_init := by decide +kernel
theorem kin_X3_init_X3 : ∀ w ∈ wsX30, w ∈ wsX3_init := by decide +kernel
theorem kin_X2_init_X2 : ∀ w ∈ wsX20, w ∈ wsX2_init := by decide +kernel
theorem kin_X1_init_X1 : ∀ w ∈ wsX10, w ∈ wsX1_init := by decide +kernel
set_option maxHeartbeats 4000000 in
set_option maxRecDepth 100000 in
theorem ci_alarm (ε : kEnv) (l : Launch) {H : Heap} {x : Nat} {v1 v2 : Int32} (hbx : ε.2.2.1 ≤ x) (ha : kat ε x (.inr (1, [.int 0, .int 0, .int 0])) H) : kMv ε l yX0_init wsX0_init ({ frames := 1, cells := 0, slots := 0, locals := 12 }) [.ref x, .int v1, .int v2] H (fun q => q = x) (0) (0) (fun H' => kat ε x (.inr (1, [.int v1, .int v2, .int (mI 0)])) H') := by
  refine kof (cc := cX0_init) (maxL := 3) (ret := none) (by decide) rfl (Nat.le_of_ble_eq_true rfl) ?_
  intro p e s m below meth c ls S hr hlocks hin hH hE hl
  have S : CallFix p m c cX0_init 3 s _ wsX0_init RX0 := S
  have hx := S.1
  have hb := S.2.1
  have hown : s.vm.findClass RX0 = some m.cls := S.2.2.2.1
  have hts := S.2.2.2.2
  have hK := hE.1
  have hS : va_S (fun q => q = x) s.heap H [] := by rw [hH]; exact va_S.rf
  have hl : lv_has ls 3 [(0, .ref x), (1, .int v1), (2, .int v2)] := hl
  refine lv_aload_n hx hb dX0_init_0 rfl (lv_at hl 0 rfl) ?_
  refine kr_oinit hx hb hown (hts (.methodLink RX0 3 Lib.objectInit) (by decide +kernel)) (hts (.instanceMethod Lib.objectInit) (by decide +kernel)) (hts (.code Lib.objectInit ⟨#[0xb1]⟩ 1 none) (by decide +kernel)) (hl.1.trans S.2.2.1.symm) dX0_init_1 (Nat.le_of_ble_eq_true rfl) (Nat.le_of_ble_eq_true rfl) ?_
  refine lv_aload_n hx hb dX0_init_4 rfl (lv_at hl 0 rfl) ?_
  refine lv_iload_n hx hb dX0_init_5 rfl (lv_at hl 1 rfl) ?_
  refine kr_putF (T := TX0) (N := 3) (v := .int v1) (ty := .int) hx hb hts hown hK hS ha (rfl) rfl kin_X0_init_X0 tyX0 tyX0_ok nmX0 0 (by decide) (by decide +kernel) rfl hin rfl (by decide +kernel) rfl rfl (Nat.le_of_ble_eq_true rfl) dX0_init_6 (fun H1 locs hU ho hS => ?_)
  have ha : kat ε x (.inr (1, [.int v1, .int 0, .int 0])) H1 := ho
  clear ho hU
  refine lv_aload_n hx hb dX0_init_9 rfl (lv_at hl 0 rfl) ?_
  refine lv_iload_n hx hb dX0_init_10 rfl (lv_at hl 2 rfl) ?_
  refine kr_putF (T := TX0) (N := 3) (v := .int v2) (ty := .int) hx hb hts hown hK hS ha (rfl) rfl kin_X0_init_X0 tyX0 tyX0_ok nmX0 1 (by decide) (by decide +kernel) rfl hin rfl (by decide +kernel) rfl rfl (Nat.le_of_ble_eq_true rfl) dX0_init_11 (fun H2 locs hU ho hS => ?_)
  have ha : kat ε x (.inr (1, [.int v1, .int v2, .int 0])) H2 := ho
  clear ho hU
  refine lv_aload_n hx hb dX0_init_14 rfl (lv_at hl 0 rfl) ?_
  refine lv_iconst (v := -1) hx hb dX0_init_15 (by decide) ?_
  refine kr_put (T := TX0) (N := 3) (v := .int ((-1))) (ty := .int) hx hb hts hown hK hS ha (rfl) rfl kin_X0_init_X0 tyX0 tyX0_ok nmX0 2 (by decide) "Probeweb$Alarm" (hts (.fieldLink RX0 18 "Probeweb$Alarm" "closed" "I") (by decide +kernel)) (fun _ h => h) rfl (by decide +kernel) rfl rfl (Nat.le_of_ble_eq_true rfl) dX0_init_16 (fun H3 locs hU ho hS => ?_)
  have ha : kat ε x (.inr (1, [.int v1, .int v2, .int ((-1))])) H3 := ho
  clear ho hU
  refine kend_v S hr hlocks hS ha dX0_init_19
set_option maxHeartbeats 4000000 in
set_option maxRecDepth 100000 in
theorem ci_window (ε : kEnv) (l : Launch) {H : Heap} {x : Nat} {v1 v2 v3 : Int32} (hbx : ε.2.2.1 ≤ x) (ha : kat ε x (.inr (4, [.int 0, .int 0, .int 0])) H) : kMv ε l yX3_init wsX3_init ({ frames := 1, cells := 0, slots := 0, locals := 12 }) [.ref x, .int v1, .int v2, .int v3] H (fun q => q = x) (0) (0) (fun H' => kat ε x (.inr (4, [.int v1, .int v2, .int v3])) H') := by
  refine kof (cc := cX3_init) (maxL := 4) (ret := none) (by decide) rfl (Nat.le_of_ble_eq_true rfl) ?_
  intro p e s m below meth c ls S hr hlocks hin hH hE hl
  have S : CallFix p m c cX3_init 4 s _ wsX3_init RX3 := S
  have hx := S.1
  have hb := S.2.1
  have hown : s.vm.findClass RX3 = some m.cls := S.2.2.2.1
  have hts := S.2.2.2.2
  have hK := hE.1
  have hS : va_S (fun q => q = x) s.heap H [] := by rw [hH]; exact va_S.rf
  have hl : lv_has ls 4 [(0, .ref x), (1, .int v1), (2, .int v2), (3, .int v3)] := hl
  refine lv_aload_n hx hb dX3_init_0 rfl (lv_at hl 0 rfl) ?_
  refine kr_oinit hx hb hown (hts (.methodLink RX3 1 Lib.objectInit) (by decide +kernel)) (hts (.instanceMethod Lib.objectInit) (by decide +kernel)) (hts (.code Lib.objectInit ⟨#[0xb1]⟩ 1 none) (by decide +kernel)) (hl.1.trans S.2.2.1.symm) dX3_init_1 (Nat.le_of_ble_eq_true rfl) (Nat.le_of_ble_eq_true rfl) ?_
  refine lv_aload_n hx hb dX3_init_4 rfl (lv_at hl 0 rfl) ?_
  refine lv_iload_n hx hb dX3_init_5 rfl (lv_at hl 1 rfl) ?_
  refine kr_putF (T := TX3) (N := 3) (v := .int v1) (ty := .int) hx hb hts hown hK hS ha (rfl) rfl kin_X3_init_X3 tyX3 tyX3_ok nmX3 0 (by decide) (by decide +kernel) rfl hin rfl (by decide +kernel) rfl rfl (Nat.le_of_ble_eq_true rfl) dX3_init_6 (fun H1 locs hU ho hS => ?_)
  have ha : kat ε x (.inr (4, [.int v1, .int 0, .int 0])) H1 := ho
  clear ho hU
  refine lv_aload_n hx hb dX3_init_9 rfl (lv_at hl 0 rfl) ?_
  refine lv_iload_n hx hb dX3_init_10 rfl (lv_at hl 2 rfl) ?_
  refine kr_putF (T := TX3) (N := 3) (v := .int v2) (ty := .int) hx hb hts hown hK hS ha (rfl) rfl kin_X3_init_X3 tyX3 tyX3_ok nmX3 1 (by decide) (by decide +kernel) rfl hin rfl (by decide +kernel) rfl rfl (Nat.le_of_ble_eq_true rfl) dX3_init_11 (fun H2 locs hU ho hS => ?_)
  have ha : kat ε x (.inr (4, [.int v1, .int v2, .int 0])) H2 := ho
  clear ho hU
  refine lv_aload_n hx hb dX3_init_14 rfl (lv_at hl 0 rfl) ?_
  refine lv_iload_n hx hb dX3_init_15 rfl (lv_at hl 3 rfl) ?_
  refine kr_put (T := TX3) (N := 3) (v := .int v3) (ty := .int) hx hb hts hown hK hS ha (rfl) rfl kin_X3_init_X3 tyX3 tyX3_ok nmX3 2 (by decide) "Probeweb$Window" (hts (.fieldLink RX3 16 "Probeweb$Window" "last" "I") (by decide +kernel)) (fun _ h => h) rfl (by decide +kernel) rfl rfl (Nat.le_of_ble_eq_true rfl) dX3_init_16 (fun H3 locs hU ho hS => ?_)
  have ha : kat ε x (.inr (4, [.int v1, .int v2, .int v3])) H3 := ho
  clear ho hU
  refine kend_v S hr hlocks hS ha dX3_init_19
set_option maxHeartbeats 4000000 in
set_option maxRecDepth 100000 in
theorem ci_region (ε : kEnv) (l : Launch) {H : Heap} {x t r : Nat} (hbx : ε.2.2.1 ≤ x) (ht : t < 64) (hr6 : r < 6) (ha : kat ε x (.inr (3, [.int 0, .int 0, .int 0, .int 0])) H) : kMv ε l yX2_init wsX2_init ({ frames := 1, cells := 0, slots := 0, locals := 22 }) [.ref x, .int (nI r), .int (nI t)] H (fun q => q = x) (0) (0) (fun H' => kat ε x (.inr (3, [.int (nI r), .int (nI (kwr t r true)), .int 0, .int 0])) H') := by
  refine kof (cc := cX2_init) (maxL := 3) (ret := none) (by decide) rfl (Nat.le_of_ble_eq_true rfl) ?_
  intro p e s m below meth c ls S hr hlocks hin hH hE hl
  have S : CallFix p m c cX2_init 3 s _ wsX2_init RX2 := S
  have hx := S.1
  have hb := S.2.1
  have hown : s.vm.findClass RX2 = some m.cls := S.2.2.2.1
  have hts := S.2.2.2.2
  have hK := hE.1
  have hS : va_S (fun q => q = x) s.heap H [] := by rw [hH]; exact va_S.rf
  have hl : lv_has ls 3 [(0, .ref x), (1, .int (nI r)), (2, .int (nI t))] := hl
  have hAb : ∀ q, q = x → kHi ε q := fun q h => h ▸ hbx
  refine lv_aload_n hx hb dX2_init_0 rfl (lv_at hl 0 rfl) ?_
  refine kr_oinit hx hb hown (hts (.methodLink RX2 1 Lib.objectInit) (by decide +kernel)) (hts (.instanceMethod Lib.objectInit) (by decide +kernel)) (hts (.code Lib.objectInit ⟨#[0xb1]⟩ 1 none) (by decide +kernel)) (hl.1.trans S.2.2.1.symm) dX2_init_1 (Nat.le_of_ble_eq_true rfl) (Nat.le_of_ble_eq_true rfl) ?_
  refine lv_aload_n hx hb dX2_init_4 rfl (lv_at hl 0 rfl) ?_
  refine lv_iload_n hx hb dX2_init_5 rfl (lv_at hl 1 rfl) ?_
  refine kr_putF (T := TX2) (N := 4) (v := .int (nI r)) (ty := .int) hx hb hts hown hK hS ha (rfl) rfl kin_X2_init_X2 tyX2 tyX2_ok nmX2 0 (by decide) (by decide +kernel) rfl hin rfl (by decide +kernel) rfl rfl (Nat.le_of_ble_eq_true rfl) dX2_init_6 (fun H1 locs hU ho hS => ?_)
  have ha : kat ε x (.inr (3, [.int (nI r), .int 0, .int 0, .int 0])) H1 := ho
  clear ho hU
  refine lv_aload_n hx hb dX2_init_9 rfl (lv_at hl 0 rfl) ?_
  refine lv_iload_n hx hb dX2_init_10 rfl (lv_at hl 2 rfl) ?_
  refine lv_iload_n hx hb dX2_init_11 rfl (lv_at hl 1 rfl) ?_
  refine lv_iconst (v := 1) hx hb dX2_init_12 (by decide) ?_
  refine kr_top (y := bI true) (rfl) ?_
  refine kgo_pi (v := nI (kwr t r true)) (kc_SN (As := [.int (nI t), .int (nI r), .int (bI true)]) (rest := [.ref x]) S hE hS hAb (cc_with ε l (b := true) ht hr6) ⟨va_cnB 3 hts gX2_init_X4_withRegion_n13 rfl rfl rfl (hE.2.2.2.2.1 (RX2, 13, yX4_withRegion, RX4) (by decide +kernel)) (hts (.initialized RX4) (by decide +kernel)) (by decide +kernel) ⟨Nat.le_of_ble_eq_true rfl, Nat.le_of_ble_eq_true rfl⟩, hts (.static yX4_withRegion) (by decide +kernel), trivial⟩ rfl hl.1 rfl (Nat.le_of_ble_eq_true rfl) dX2_init_13 ⟨Nat.zero_le _, Nat.zero_le _⟩) hS (fun locs hS => ?_)
  refine kr_putF (T := TX2) (N := 4) (v := .int (nI (kwr t r true))) (ty := .int) hx hb hts hown hK hS ha (rfl) rfl kin_X2_init_X2 tyX2 tyX2_ok nmX2 1 (by decide) (by decide +kernel) rfl hin rfl (by decide +kernel) rfl rfl (Nat.le_of_ble_eq_true rfl) dX2_init_16 (fun H2 locs hU ho hS => ?_)
  have ha : kat ε x (.inr (3, [.int (nI r), .int (nI (kwr t r true)), .int 0, .int 0])) H2 := ho
  clear ho hU
  refine kend_v S hr hlocks hS ha dX2_init_19
set_option maxHeartbeats 4000000 in
set_option maxRecDepth 100000 in
theorem ci_check (ε : kEnv) (l : Launch) {H : Heap} {x : Nat} {v1 v2 v3 v4 v5 : Int32} (hbx : ε.2.2.1 ≤ x) (ha : kat ε x (.inr (2, [.int 0, .int 0, .int 0, .int 0, .int 0, .int 0, .null, .null, .null, .int 0, .null, .int 0, .int 0])) H) : kMv ε l yX1_init wsX1_init ({ frames := 1, cells := 3, slots := 18, locals := 12 }) [.ref x, .int v1, .int v2, .int v3, .int v4, .int v5] H (kA1 x H.size) (3) (18) (fun H' => ∃ q5 q6 q7 : Nat, H.size ≤ q5 ∧ x < q5 ∧ q5 < q6 ∧ q6 < q7 ∧ kat ε q5 (kI ε 6 (fun _ => 0)) H' ∧ kat ε q6 (kI ε 6 (fun _ => 0)) H' ∧ kat ε q7 (kI ε 6 (fun _ => 0)) H' ∧ kat ε x (.inr (2, [.int v1, .int v2, .int v3, .int v4, .int v5, .int 0, .ref q5, .ref q6, .ref q7, .int 0, .null, .int 0, .int 0])) H') := by
  refine kof (cc := cX1_init) (maxL := 6) (ret := none) (by decide) rfl (Nat.le_of_ble_eq_true rfl) ?_
  intro p e s m below meth c ls S hr hlocks hin hH hE hl
  have S : CallFix p m c cX1_init 6 s _ wsX1_init RX1 := S
  have hx := S.1
  have hb := S.2.1
  have hown : s.vm.findClass RX1 = some m.cls := S.2.2.2.1
  have hts := S.2.2.2.2
  have hK := hE.1
  have hS : va_S (kA1 x H.size) s.heap H [] := by rw [hH]; exact va_S.rf
  have hl : lv_has ls 6 [(0, .ref x), (1, .int v1), (2, .int v2), (3, .int v3), (4, .int v4), (5, .int v5)] := hl
  refine lv_aload_n hx hb dX1_init_0 rfl (lv_at hl 0 rfl) ?_
  refine kr_oinit hx hb hown (hts (.methodLink RX1 3 Lib.objectInit) (by decide +kernel)) (hts (.instanceMethod Lib.objectInit) (by decide +kernel)) (hts (.code Lib.objectInit ⟨#[0xb1]⟩ 1 none) (by decide +kernel)) (hl.1.trans S.2.2.1.symm) dX1_init_1 (Nat.le_of_ble_eq_true rfl) (Nat.le_of_ble_eq_true rfl) ?_
  refine lv_aload_n hx hb dX1_init_4 rfl (lv_at hl 0 rfl) ?_
  refine lv_iload_n hx hb dX1_init_5 rfl (lv_at hl 1 rfl) ?_
  refine kr_putF (T := TX1) (N := 13) (v := .int v1) (ty := .int) hx hb hts hown hK hS ha (Or.inl rfl) rfl kin_X1_init_X1 tyX1 tyX1_ok nmX1 0 (by decide) (by decide +kernel) rfl hin rfl (by decide +kernel) rfl rfl (Nat.le_of_ble_eq_true rfl) dX1_init_6 (fun H1 locs hU ho hS => ?_)
  have ha : kat ε x (.inr (2, [.int v1, .int 0, .int 0, .int 0, .int 0, .int 0, .null, .null, .null, .int 0, .null, .int 0, .int 0])) H1 := ho
  have huH1 := hU.1
  clear ho hU
  refine lv_aload_n hx hb dX1_init_9 rfl (lv_at hl 0 rfl) ?_
  refine lv_iload_n hx hb dX1_init_10 rfl (lv_at hl 2 rfl) ?_
  refine kr_putF (T := TX1) (N := 13) (v := .int v2) (ty := .int) hx hb hts hown hK hS ha (Or.inl rfl) rfl kin_X1_init_X1 tyX1 tyX1_ok nmX1 1 (by decide) (by decide +kernel) rfl hin rfl (by decide +kernel) rfl rfl (Nat.le_of_ble_eq_true rfl) dX1_init_11 (fun H2 locs hU ho hS => ?_)
  have ha : kat ε x (.inr (2, [.int v1, .int v2, .int 0, .int 0, .int 0, .int 0, .null, .null, .null, .int 0, .null, .int 0, .int 0])) H2 := ho
  have huH2 := hU.1
  clear ho hU
  refine lv_aload_n hx hb dX1_init_14 rfl (lv_at hl 0 rfl) ?_
  refine lv_iload_n hx hb dX1_init_15 rfl (lv_at hl 3 rfl) ?_
  refine kr_putF (T := TX1) (N := 13) (v := .int v3) (ty := .int) hx hb hts hown hK hS ha (Or.inl rfl) rfl kin_X1_init_X1 tyX1 tyX1_ok nmX1 2 (by decide) (by decide +kernel) rfl hin rfl (by decide +kernel) rfl rfl (Nat.le_of_ble_eq_true rfl) dX1_init_16 (fun H3 locs hU ho hS => ?_)
  have ha : kat ε x (.inr (2, [.int v1, .int v2, .int v3, .int 0, .int 0, .int 0, .null, .null, .null, .int 0, .null, .int 0, .int 0])) H3 := ho
  have huH3 := hU.1
  clear ho hU
  refine lv_aload_n hx hb dX1_init_19 rfl (lv_at hl 0 rfl) ?_
  refine lv_iload hx hb dX1_init_20 (lv_at hl 4 rfl) ?_
  refine kr_putF (T := TX1) (N := 13) (v := .int v4) (ty := .int) hx hb hts hown hK hS ha (Or.inl rfl) rfl kin_X1_init_X1 tyX1 tyX1_ok nmX1 3 (by decide) (by decide +kernel) rfl hin rfl (by decide +kernel) rfl rfl (Nat.le_of_ble_eq_true rfl) dX1_init_22 (fun H4 locs hU ho hS => ?_)
  have ha : kat ε x (.inr (2, [.int v1, .int v2, .int v3, .int v4, .int 0, .int 0, .null, .null, .null, .int 0, .null, .int 0, .int 0])) H4 := ho
  have huH4 := hU.1
  clear ho hU
  refine lv_aload_n hx hb dX1_init_25 rfl (lv_at hl 0 rfl) ?_
  refine lv_iload hx hb dX1_init_26 (lv_at hl 5 rfl) ?_
  refine kr_put (T := TX1) (N := 13) (v := .int v5) (ty := .int) hx hb hts hown hK hS ha (Or.inl rfl) rfl kin_X1_init_X1 tyX1 tyX1_ok nmX1 4 (by decide) "Probeweb$Check" (hts (.fieldLink RX1 24 "Probeweb$Check" "quorum" "I") (by decide +kernel)) (fun _ h => h) rfl (by decide +kernel) rfl rfl (Nat.le_of_ble_eq_true rfl) dX1_init_28 (fun H5 locs hU ho hS => ?_)
  have ha : kat ε x (.inr (2, [.int v1, .int v2, .int v3, .int v4, .int v5, .int 0, .null, .null, .null, .int 0, .null, .int 0, .int 0])) H5 := ho
  have huH5 := hU.1
  clear ho hU
  have hxl := va_at.lt ha
  refine lv_aload_n hx hb dX1_init_31 rfl (lv_at hl 0 rfl) ?_
  refine lv_bipush (v := 6) hx hb dX1_init_32 (by decide) ?_
  refine kr_newI (N' := 6) hx hb hK hS (hts (.arrayClass .int) (by decide +kernel)) (by decide) (by decide) (by decide) (Nat.le_of_ble_eq_true rfl) (Nat.le_of_ble_eq_true rfl) dX1_init_34 (fun H6 hN hr0 hS => ?_)
  have hx0 : x < H5.size := va_at.lt ha
  have ha := hN.at ha
  have hn0 := hN.1
  clear hN
  refine kr_putF (T := TX1) (N := 13) (v := .ref H5.size) (ty := .array .int) hx hb hts hown hK hS ha (Or.inl rfl) rfl kin_X1_init_X1 tyX1 tyX1_ok nmX1 6 (by decide) (by decide +kernel) rfl hin rfl (by decide +kernel) rfl rfl (Nat.le_of_ble_eq_true rfl) dX1_init_36 (fun H7 locs hU ho hS => ?_)
  have ha : kat ε x (.inr (2, [.int v1, .int v2, .int v3, .int v4, .int v5, .int 0, .ref H5.size, .null, .null, .int 0, .null, .int 0, .int 0])) H7 := ho
  have hr0 := hU.at hr0 (by omega)
  have huH7 := hU.1
  clear ho hU
  refine lv_aload_n hx hb dX1_init_39 rfl (lv_at hl 0 rfl) ?_
  refine lv_bipush (v := 6) hx hb dX1_init_40 (by decide) ?_
  refine kr_newI (N' := 6) hx hb hK hS (hts (.arrayClass .int) (by decide +kernel)) (by decide) (by decide) (by decide) (Nat.le_of_ble_eq_true rfl) (Nat.le_of_ble_eq_true rfl) dX1_init_42 (fun H8 hN hr1 hS => ?_)
  have hx1 : x < H7.size := va_at.lt ha
  have ha := hN.at ha
  have hr0 := hN.at hr0
  have hn1 := hN.1
  clear hN
  refine kr_putF (T := TX1) (N := 13) (v := .ref H7.size) (ty := .array .int) hx hb hts hown hK hS ha (Or.inl rfl) rfl kin_X1_init_X1 tyX1 tyX1_ok nmX1 7 (by decide) (by decide +kernel) rfl hin rfl (by decide +kernel) rfl rfl (Nat.le_of_ble_eq_true rfl) dX1_init_44 (fun H9 locs hU ho hS => ?_)
  have ha : kat ε x (.inr (2, [.int v1, .int v2, .int v3, .int v4, .int v5, .int 0, .ref H5.size, .ref H7.size, .null, .int 0, .null, .int 0, .int 0])) H9 := ho
  have hr0 := hU.at hr0 (by omega)
  have hr1 := hU.at hr1 (by omega)
  have huH9 := hU.1
  clear ho hU
  refine lv_aload_n hx hb dX1_init_47 rfl (lv_at hl 0 rfl) ?_
  refine lv_bipush (v := 6) hx hb dX1_init_48 (by decide) ?_
  refine kr_newI (N' := 6) hx hb hK hS (hts (.arrayClass .int) (by decide +kernel)) (by decide) (by decide) (by decide) (Nat.le_of_ble_eq_true rfl) (Nat.le_of_ble_eq_true rfl) dX1_init_50 (fun H10 hN hr2 hS => ?_)
  have hx2 : x < H9.size := va_at.lt ha
  have ha := hN.at ha
  have hr0 := hN.at hr0
  have hr1 := hN.at hr1
  have hn2 := hN.1
  clear hN
  refine kr_putF (T := TX1) (N := 13) (v := .ref H9.size) (ty := .array .int) hx hb hts hown hK hS ha (Or.inl rfl) rfl kin_X1_init_X1 tyX1 tyX1_ok nmX1 8 (by decide) (by decide +kernel) rfl hin rfl (by decide +kernel) rfl rfl (Nat.le_of_ble_eq_true rfl) dX1_init_52 (fun H11 locs hU ho hS => ?_)
  have ha : kat ε x (.inr (2, [.int v1, .int v2, .int v3, .int v4, .int v5, .int 0, .ref H5.size, .ref H7.size, .ref H9.size, .int 0, .null, .int 0, .int 0])) H11 := ho
  have hr0 := hU.at hr0 (by omega)
  have hr1 := hU.at hr1 (by omega)
  have hr2 := hU.at hr2 (by omega)
  have huH11 := hU.1
  clear ho hU
  refine kend_v S hr hlocks hS ⟨H5.size, H7.size, H9.size, by omega, by omega, by omega, by omega, hr0, hr1, hr2, ha⟩ dX1_init_55
theorem klen {a b : Nat} (ha : a < 2 ^ 30) (hb : b < 2 ^ 30) : (if (0 : Int32) < nI a - nI b + 1 then nI a - nI b + 1 else 0) = nI (a + 1 - b) := by
  rcases Nat.lt_or_ge a b with h | h
  · obtain ⟨d, rfl⟩ : ∃ d, b = a + 1 + d := ⟨b - a - 1, by omega⟩
    rw [show a + 1 - (a + 1 + d) = 0 by omega, if_neg]
    · rfl
    · have e : nI a - nI (a + 1 + d) + 1 = - nI d := by
        rw [← nI_add, ← nI_add]
        show nI a - (nI a + 1 + nI d) + 1 = - nI d
        rw [← Int32.toBitVec_inj]
        simp only [Int32.toBitVec_add, Int32.toBitVec_sub, Int32.toBitVec_neg]
        generalize (nI a).toBitVec = x
        generalize (nI d).toBitVec = y
        generalize (1 : Int32).toBitVec = z
        bv_omega
      rw [e]
      intro h9
      have h10 := Int32.lt_iff_toInt_lt.mp h9
      rw [Int32.toInt_neg, nI_toInt (by omega)] at h10
      have e2 : (-(d : Int)).bmod (2 ^ 32) = -(d : Int) := by
        apply Int.bmod_eq_of_le <;> omega
      rw [e2] at h10
      have : (0 : Int32).toInt = 0 := by decide
      omega
  · obtain ⟨d, rfl⟩ : ∃ d, a = b + d := ⟨a - b, by omega⟩
    have e : nI (b + d) - nI b + 1 = nI (d + 1) := by
      rw [← nI_add, Int32.add_comm (nI b), Int32.add_sub_cancel, nI_1]
    rw [e, show b + d + 1 - b = d + 1 by omega, if_pos]
    exact Int32.not_le.mp (nI_nle (by omega) (by omega))
theorem kin_X3_endAfter_X3 : ∀ w ∈ wsX30, w ∈ wsX3_endAfter := by decide +kernel
theorem kin_X3_length_X3 : ∀ w ∈ wsX30, w ∈ wsX3_length := by decide +kernel
set_option maxHeartbeats 4000000 in
set_option maxRecDepth 100000 in
theorem cc_endAfter (ε : kEnv) (l : Launch) {A : Nat → Prop} {ad : Nat → Nat → Nat} {σ : kS} {H : Heap} {i t : Nat} (hAb : ∀ q, A q → kHi ε q) (hw : kW ε A ad σ H) (hB : kB σ) (hi : i < σ 3 0) (ht : t ≤ 102400) : kMv ε l yX3_endAfter wsX3_endAfter ({ frames := 1, cells := 0, slots := 0, locals := 14 }) [.ref (ad 8 i), .int (nI t)] H A (0) (0) (fun H' => kW ε A ad (ku σ 42 i (min t (σ 42 i))) H') := by
  refine kof (cc := cX3_endAfter) (maxL := 2) (ret := none) (by decide) rfl (Nat.le_of_ble_eq_true rfl) ?_
  intro p e s m below meth c ls S hr hlocks hin hH hE hl
  have S : CallFix p m c cX3_endAfter 2 s _ wsX3_endAfter RX3 := S
  have hx := S.1
  have hb := S.2.1
  have hown : s.vm.findClass RX3 = some m.cls := S.2.2.2.1
  have hts := S.2.2.2.2
  have hK := hE.1
  have hS : va_S A s.heap H [] := by rw [hH]; exact va_S.rf
  have hnR := hB.nR
  have hnC := hB.nC
  have hnW := hB.nW
  have hnA := hB.nA
  have hmn := hB.min
  have hl : lv_has ls 2 [(0, .ref (ad 8 i)), (1, .int (nI t))] := hl
  have hk := hB.wn i hi
  refine lv_aload_n hx hb dX3_endAfter_0 rfl (lv_at hl 0 rfl) ?_
  refine lv_aload_n hx hb dX3_endAfter_1 rfl (lv_at hl 0 rfl) ?_
  refine kr_get (T := TX3) (N := 3) hx hb hts hown hK (hw.lv 8 i hi) rfl kin_X3_endAfter_X3 2 (by decide) (by decide +kernel) rfl dX3_endAfter_2 ?_
  refine lv_iload_n hx hb dX3_endAfter_5 rfl (lv_at hl 1 rfl) ?_
  refine va_mmin hx hb (S.2.2.1.trans hl.1.symm) (own := RX3) hown (hts (.methodLink RX3 19 Lib.Math.min.name) (by decide +kernel)) (hts (.static Lib.Math.min.name) (by decide +kernel)) (hts (.initialized "java/lang/Math") (by decide +kernel)) (hts (.code Lib.Math.min.name Lib.Math.min.code 2 (some .int)) (by decide +kernel)) (Nat.le_of_ble_eq_true rfl) (Nat.le_of_ble_eq_true rfl) (Nat.zero_le _) (Nat.zero_le _) dX3_endAfter_6 ?_
  refine kr_top (y := nI (min t (σ 42 i))) (by
    rcases Nat.lt_or_ge t (σ 42 i) with h | h
    · rw [if_pos (nI_lt h (by omega)), Nat.min_eq_left (Nat.le_of_lt h)]
    · rw [if_neg (nI_nlt h (by omega)), Nat.min_eq_right h]) ?_
  refine kr_put (T := TX3) (N := 3) (v := .int (nI (min t (σ 42 i)))) (ty := .int) hx hb hts hown hK hS (hw.lv 8 i hi) (hw.1 8 i hi).2 rfl kin_X3_endAfter_X3 tyX3 tyX3_ok nmX3 2 (by decide) "Probeweb$Window" (hts (.fieldLink RX3 16 "Probeweb$Window" "last" "I") (by decide +kernel)) (fun _ h => h) rfl (by decide +kernel) rfl rfl (Nat.le_of_ble_eq_true rfl) dX3_endAfter_9 (fun H1 locs hU ho hS => ?_)
  have hw := kw_p42 (v := min t (σ 42 i)) hw hi hU ho
  clear hU ho
  refine kend_v S hr hlocks hS hw dX3_endAfter_12
set_option maxHeartbeats 4000000 in
set_option maxRecDepth 100000 in
theorem cc_length (ε : kEnv) (l : Launch) {A : Nat → Prop} {ad : Nat → Nat → Nat} {σ : kS} {H : Heap} {i : Nat} (hw : kW ε A ad σ H) (hB : kB σ) (hi : i < σ 3 0) : kPi ε l yX3_length wsX3_length ({ frames := 1, cells := 0, slots := 0, locals := 14 }) [.ref (ad 8 i)] H (nI (σ 42 i + 1 - σ 41 i)) := by
  refine kof (cc := cX3_length) (maxL := 1) (ret := (some .int)) (by decide) rfl (Nat.le_of_ble_eq_true rfl) ?_
  intro p e s m below meth c ls S hr hlocks hin hH hE hl
  have S : CallFix p m c cX3_length 1 s _ wsX3_length RX3 := S
  have hx := S.1
  have hb := S.2.1
  have hown : s.vm.findClass RX3 = some m.cls := S.2.2.2.1
  have hts := S.2.2.2.2
  have hK := hE.1
  have hS : va_S kNo s.heap H [] := by rw [hH]; exact va_S.rf
  have hAb : ∀ q, kNo q → kHi ε q := fun _ h => h.elim
  have hnR := hB.nR
  have hnC := hB.nC
  have hnW := hB.nW
  have hnA := hB.nA
  have hmn := hB.min
  have hl : lv_has ls 1 [(0, .ref (ad 8 i))] := hl
  have hk := hB.wn i hi
  refine lv_iconst (v := 0) hx hb dX3_length_0 (by decide) ?_
  refine lv_aload_n hx hb dX3_length_1 rfl (lv_at hl 0 rfl) ?_
  refine kr_get (T := TX3) (N := 3) hx hb hts hown hK (hw.lv 8 i hi) rfl kin_X3_length_X3 2 (by decide) (by decide +kernel) rfl dX3_length_2 ?_
  refine lv_aload_n hx hb dX3_length_5 rfl (lv_at hl 0 rfl) ?_
  refine kr_get (T := TX3) (N := 3) hx hb hts hown hK (hw.lv 8 i hi) rfl kin_X3_length_X3 1 (by decide) (by decide +kernel) rfl dX3_length_6 ?_
  refine lv_isub hx hb dX3_length_9 ?_
  refine lv_iconst (v := 1) hx hb dX3_length_10 (by decide) ?_
  refine lv_iadd hx hb dX3_length_11 ?_
  refine va_mmax hx hb (S.2.2.1.trans hl.1.symm) (own := RX3) hown (hts (.methodLink RX3 25 Lib.Math.max.name) (by decide +kernel)) (hts (.static Lib.Math.max.name) (by decide +kernel)) (hts (.initialized "java/lang/Math") (by decide +kernel)) (hts (.code Lib.Math.max.name Lib.Math.max.code 2 (some .int)) (by decide +kernel)) (Nat.le_of_ble_eq_true rfl) (Nat.le_of_ble_eq_true rfl) (Nat.zero_le _) (Nat.zero_le _) dX3_length_12 ?_
  refine kr_top (y := nI (σ 42 i + 1 - σ 41 i)) (klen (by omega) (by omega)) ?_
  refine kend_i S hr hlocks hS ⟨rfl, rfl⟩ dX3_length_15
