def kt0 : kS := fun g _ => match g with
  | 1 => 1
  | 11 => 1
  | 22 => 1
  | _ => 0
def kbd (x n : Nat) : Nat → Nat := fun k => match k with
  | 0 => x
  | k + 1 => n + k
theorem kbd_inj {x n : Nat} (h : x < n) {k k' : Nat} (he : kbd x n k = kbd x n k') : k = k' := by
  match k, k', he with
  | 0, 0, _ => rfl
  | 0, k' + 1, he =>
    have h9 : x = n + k' := he
    omega
  | k + 1, 0, he =>
    have h9 : n + k = x := he
    omega
  | k + 1, k' + 1, he =>
    have h9 : n + k = n + k' := he
    omega
theorem kin_X5_init_X5 : ∀ w ∈ wsX50, w ∈ wsX5_init := by decide +kernel
set_option maxHeartbeats 4000000 in
set_option maxRecDepth 100000 in
theorem mi_model (ε : kEnv) (l : Launch) {H : Heap} {x : Nat} (hbx : ε.2.2.1 ≤ x) (hbz : ε.2.2.1 ≤ H.size) (ha : kat ε x (.inr (6, [.int 0, .int 0, .null, .null, .null, .null, .null, .int 0, .null, .null, .null, .null, .null, .null, .null, .null, .null, .null, .null, .null, .int 0, .null, .null, .null, .int 0, .null, .null, .int 0])) H) : kMv ε l yX5_init wsX5_init ({ frames := 1, cells := 22, slots := 120322, locals := 40 }) [.ref x] H (kA1 x H.size) (22) (120322) (fun H' => kM ε (kA1 x H.size) (kbd x H.size) kt0 H') := by
  refine kof (cc := cX5_init) (maxL := 1) (ret := none) (by decide) rfl (Nat.le_of_ble_eq_true rfl) ?_
  intro p e s m below meth c ls S hr hlocks hin hH hE hl
  have S : CallFix p m c cX5_init 1 s _ wsX5_init RX5 := S
  have hx := S.1
  have hb := S.2.1
  have hown : s.vm.findClass RX5 = some m.cls := S.2.2.2.1
  have hts := S.2.2.2.2
  have hK := hE.1
  have hS : va_S (kA1 x H.size) s.heap H [] := by rw [hH]; exact va_S.rf
  have hl : lv_has ls 1 [(0, .ref x)] := hl
  have hxl := va_at.lt ha
  have hnx : ∀ z : Nat, H.size + z ≠ x := fun z => by omega
  refine lv_aload_n hx hb dX5_init_0 rfl (lv_at hl 0 rfl) ?_
  refine kr_oinit hx hb hown (hts (.methodLink RX5 1 Lib.objectInit) (by decide +kernel)) (hts (.instanceMethod Lib.objectInit) (by decide +kernel)) (hts (.code Lib.objectInit ⟨#[0xb1]⟩ 1 none) (by decide +kernel)) (hl.1.trans S.2.2.1.symm) dX5_init_1 (Nat.le_of_ble_eq_true rfl) (Nat.le_of_ble_eq_true rfl) ?_
  have hs0 : H.size = H.size + 0 := rfl
  refine lv_aload_n hx hb dX5_init_4 rfl (lv_at hl 0 rfl) ?_
  refine lv_bipush (v := 6) hx hb dX5_init_5 (by decide) ?_
  refine kr_newI (N' := 6) hx hb hK hS (hts (.arrayClass .int) (by decide +kernel)) (by decide) (by decide) (by decide) (Nat.le_of_ble_eq_true rfl) (Nat.le_of_ble_eq_true rfl) dX5_init_7 (fun Ha1 hN hr1 hS => ?_)
  have ha := hN.at ha
  have hn1 := hN.1
  clear hN
  refine kr_putF (T := TX5) (N := 28) (v := .ref H.size) (ty := .array .int) hx hb hts hown hK hS ha (Or.inl rfl) rfl kin_X5_init_X5 tyX5 tyX5_ok nmX5 2 (by decide) (by decide +kernel) rfl hin rfl (by decide +kernel) rfl rfl (Nat.le_of_ble_eq_true rfl) dX5_init_9 (fun Hb1 locs hU ho hS => ?_)
  have ha : kat ε x (.inr (6, [.int 0, .int 0, .ref H.size, .null, .null, .null, .null, .int 0, .null, .null, .null, .null, .null, .null, .null, .null, .null, .null, .null, .null, .int 0, .null, .null, .null, .int 0, .null, .null, .int 0])) Hb1 := ho
  have hr1 := hU.at hr1 (hnx 0)
  have hs1 : Hb1.size = H.size + 1 := by rw [hU.1, hn1]
  clear hU ho
  refine lv_aload_n hx hb dX5_init_12 rfl (lv_at hl 0 rfl) ?_
  refine lv_bipush (v := 6) hx hb dX5_init_13 (by decide) ?_
  refine kr_newZ (N' := 6) hx hb hK hS (hts (.arrayClass .boolean) (by decide +kernel)) (by decide) (by decide) (by decide) (Nat.le_of_ble_eq_true rfl) (Nat.le_of_ble_eq_true rfl) dX5_init_15 (fun Ha2 hN hr2 hS => ?_)
  rw [hs1] at hr2 ⊢
  have ha := hN.at ha
  have hr1 := hN.at hr1
  have hn2 := hN.1
  clear hN
  refine kr_putF (T := TX5) (N := 28) (v := .ref (H.size + 1)) (ty := .array .boolean) hx hb hts hown hK hS ha (Or.inl rfl) rfl kin_X5_init_X5 tyX5 tyX5_ok nmX5 3 (by decide) (by decide +kernel) rfl hin rfl (by decide +kernel) rfl rfl (Nat.le_of_ble_eq_true rfl) dX5_init_17 (fun Hb2 locs hU ho hS => ?_)
  have ha : kat ε x (.inr (6, [.int 0, .int 0, .ref H.size, .ref ((H.size + 1)), .null, .null, .null, .int 0, .null, .null, .null, .null, .null, .null, .null, .null, .null, .null, .null, .null, .int 0, .null, .null, .null, .int 0, .null, .null, .int 0])) Hb2 := ho
  have hr1 := hU.at hr1 (hnx 0)
  have hr2 := hU.at hr2 (hnx 1)
  have hs2 : Hb2.size = H.size + 2 := by rw [hU.1, hn2, hs1]
  clear hU ho
  refine lv_aload_n hx hb dX5_init_20 rfl (lv_at hl 0 rfl) ?_
  refine lv_bipush (v := 6) hx hb dX5_init_21 (by decide) ?_
  refine kr_newZ (N' := 6) hx hb hK hS (hts (.arrayClass .boolean) (by decide +kernel)) (by decide) (by decide) (by decide) (Nat.le_of_ble_eq_true rfl) (Nat.le_of_ble_eq_true rfl) dX5_init_23 (fun Ha3 hN hr3 hS => ?_)
  rw [hs2] at hr3 ⊢
  have ha := hN.at ha
  have hr1 := hN.at hr1
  have hr2 := hN.at hr2
  have hn3 := hN.1
  clear hN
  refine kr_putF (T := TX5) (N := 28) (v := .ref (H.size + 2)) (ty := .array .boolean) hx hb hts hown hK hS ha (Or.inl rfl) rfl kin_X5_init_X5 tyX5 tyX5_ok nmX5 4 (by decide) (by decide +kernel) rfl hin rfl (by decide +kernel) rfl rfl (Nat.le_of_ble_eq_true rfl) dX5_init_25 (fun Hb3 locs hU ho hS => ?_)
  have ha : kat ε x (.inr (6, [.int 0, .int 0, .ref H.size, .ref ((H.size + 1)), .ref ((H.size + 2)), .null, .null, .int 0, .null, .null, .null, .null, .null, .null, .null, .null, .null, .null, .null, .null, .int 0, .null, .null, .null, .int 0, .null, .null, .int 0])) Hb3 := ho
  have hr1 := hU.at hr1 (hnx 0)
  have hr2 := hU.at hr2 (hnx 1)
  have hr3 := hU.at hr3 (hnx 2)
  have hs3 : Hb3.size = H.size + 3 := by rw [hU.1, hn3, hs2]
  clear hU ho
  refine lv_aload_n hx hb dX5_init_28 rfl (lv_at hl 0 rfl) ?_
  refine lv_bipush (v := 6) hx hb dX5_init_29 (by decide) ?_
  refine kr_newI (N' := 6) hx hb hK hS (hts (.arrayClass .int) (by decide +kernel)) (by decide) (by decide) (by decide) (Nat.le_of_ble_eq_true rfl) (Nat.le_of_ble_eq_true rfl) dX5_init_31 (fun Ha4 hN hr4 hS => ?_)
  rw [hs3] at hr4 ⊢
  have ha := hN.at ha
  have hr1 := hN.at hr1
  have hr2 := hN.at hr2
  have hr3 := hN.at hr3
  have hn4 := hN.1
  clear hN
  refine kr_putF (T := TX5) (N := 28) (v := .ref (H.size + 3)) (ty := .array .int) hx hb hts hown hK hS ha (Or.inl rfl) rfl kin_X5_init_X5 tyX5 tyX5_ok nmX5 5 (by decide) (by decide +kernel) rfl hin rfl (by decide +kernel) rfl rfl (Nat.le_of_ble_eq_true rfl) dX5_init_33 (fun Hb4 locs hU ho hS => ?_)
  have ha : kat ε x (.inr (6, [.int 0, .int 0, .ref H.size, .ref ((H.size + 1)), .ref ((H.size + 2)), .ref ((H.size + 3)), .null, .int 0, .null, .null, .null, .null, .null, .null, .null, .null, .null, .null, .null, .null, .int 0, .null, .null, .null, .int 0, .null, .null, .int 0])) Hb4 := ho
  have hr1 := hU.at hr1 (hnx 0)
  have hr2 := hU.at hr2 (hnx 1)
  have hr3 := hU.at hr3 (hnx 2)
  have hr4 := hU.at hr4 (hnx 3)
  have hs4 : Hb4.size = H.size + 4 := by rw [hU.1, hn4, hs3]
  clear hU ho
  refine lv_aload_n hx hb dX5_init_36 rfl (lv_at hl 0 rfl) ?_
  refine lv_bipush (v := 6) hx hb dX5_init_37 (by decide) ?_
  refine kr_newI (N' := 6) hx hb hK hS (hts (.arrayClass .int) (by decide +kernel)) (by decide) (by decide) (by decide) (Nat.le_of_ble_eq_true rfl) (Nat.le_of_ble_eq_true rfl) dX5_init_39 (fun Ha5 hN hr5 hS => ?_)
  rw [hs4] at hr5 ⊢
  have ha := hN.at ha
  have hr1 := hN.at hr1
  have hr2 := hN.at hr2
  have hr3 := hN.at hr3
  have hr4 := hN.at hr4
  have hn5 := hN.1
  clear hN
  refine kr_putF (T := TX5) (N := 28) (v := .ref (H.size + 4)) (ty := .array .int) hx hb hts hown hK hS ha (Or.inl rfl) rfl kin_X5_init_X5 tyX5 tyX5_ok nmX5 6 (by decide) (by decide +kernel) rfl hin rfl (by decide +kernel) rfl rfl (Nat.le_of_ble_eq_true rfl) dX5_init_41 (fun Hb5 locs hU ho hS => ?_)
  have ha : kat ε x (.inr (6, [.int 0, .int 0, .ref H.size, .ref ((H.size + 1)), .ref ((H.size + 2)), .ref ((H.size + 3)), .ref ((H.size + 4)), .int 0, .null, .null, .null, .null, .null, .null, .null, .null, .null, .null, .null, .null, .int 0, .null, .null, .null, .int 0, .null, .null, .int 0])) Hb5 := ho
  have hr1 := hU.at hr1 (hnx 0)
  have hr2 := hU.at hr2 (hnx 1)
  have hr3 := hU.at hr3 (hnx 2)
  have hr4 := hU.at hr4 (hnx 3)
  have hr5 := hU.at hr5 (hnx 4)
  have hs5 : Hb5.size = H.size + 5 := by rw [hU.1, hn5, hs4]
  clear hU ho
  refine lv_aload_n hx hb dX5_init_44 rfl (lv_at hl 0 rfl) ?_
  refine lv_bipush (v := 8) hx hb dX5_init_45 (by decide) ?_
  refine kr_newI (N' := 8) hx hb hK hS (hts (.arrayClass .int) (by decide +kernel)) (by decide) (by decide) (by decide) (Nat.le_of_ble_eq_true rfl) (Nat.le_of_ble_eq_true rfl) dX5_init_47 (fun Ha6 hN hr6 hS => ?_)
  rw [hs5] at hr6 ⊢
  have ha := hN.at ha
  have hr1 := hN.at hr1
  have hr2 := hN.at hr2
  have hr3 := hN.at hr3
  have hr4 := hN.at hr4
  have hr5 := hN.at hr5
  have hn6 := hN.1
  clear hN
  refine kr_putF (T := TX5) (N := 28) (v := .ref (H.size + 5)) (ty := .array .int) hx hb hts hown hK hS ha (Or.inl rfl) rfl kin_X5_init_X5 tyX5 tyX5_ok nmX5 8 (by decide) (by decide +kernel) rfl hin rfl (by decide +kernel) rfl rfl (Nat.le_of_ble_eq_true rfl) dX5_init_49 (fun Hb6 locs hU ho hS => ?_)
  have ha : kat ε x (.inr (6, [.int 0, .int 0, .ref H.size, .ref ((H.size + 1)), .ref ((H.size + 2)), .ref ((H.size + 3)), .ref ((H.size + 4)), .int 0, .ref ((H.size + 5)), .null, .null, .null, .null, .null, .null, .null, .null, .null, .null, .null, .int 0, .null, .null, .null, .int 0, .null, .null, .int 0])) Hb6 := ho
  have hr1 := hU.at hr1 (hnx 0)
  have hr2 := hU.at hr2 (hnx 1)
  have hr3 := hU.at hr3 (hnx 2)
  have hr4 := hU.at hr4 (hnx 3)
  have hr5 := hU.at hr5 (hnx 4)
  have hr6 := hU.at hr6 (hnx 5)
  have hs6 : Hb6.size = H.size + 6 := by rw [hU.1, hn6, hs5]
  clear hU ho
  refine lv_aload_n hx hb dX5_init_52 rfl (lv_at hl 0 rfl) ?_
  refine lv_bipush (v := 8) hx hb dX5_init_53 (by decide) ?_
  refine kr_newI (N' := 8) hx hb hK hS (hts (.arrayClass .int) (by decide +kernel)) (by decide) (by decide) (by decide) (Nat.le_of_ble_eq_true rfl) (Nat.le_of_ble_eq_true rfl) dX5_init_55 (fun Ha7 hN hr7 hS => ?_)
  rw [hs6] at hr7 ⊢
  have ha := hN.at ha
  have hr1 := hN.at hr1
  have hr2 := hN.at hr2
  have hr3 := hN.at hr3
  have hr4 := hN.at hr4
  have hr5 := hN.at hr5
  have hr6 := hN.at hr6
  have hn7 := hN.1
  clear hN
  refine kr_putF (T := TX5) (N := 28) (v := .ref (H.size + 6)) (ty := .array .int) hx hb hts hown hK hS ha (Or.inl rfl) rfl kin_X5_init_X5 tyX5 tyX5_ok nmX5 9 (by decide) (by decide +kernel) rfl hin rfl (by decide +kernel) rfl rfl (Nat.le_of_ble_eq_true rfl) dX5_init_57 (fun Hb7 locs hU ho hS => ?_)
  have ha : kat ε x (.inr (6, [.int 0, .int 0, .ref H.size, .ref ((H.size + 1)), .ref ((H.size + 2)), .ref ((H.size + 3)), .ref ((H.size + 4)), .int 0, .ref ((H.size + 5)), .ref ((H.size + 6)), .null, .null, .null, .null, .null, .null, .null, .null, .null, .null, .int 0, .null, .null, .null, .int 0, .null, .null, .int 0])) Hb7 := ho
  have hr1 := hU.at hr1 (hnx 0)
  have hr2 := hU.at hr2 (hnx 1)
  have hr3 := hU.at hr3 (hnx 2)
  have hr4 := hU.at hr4 (hnx 3)
  have hr5 := hU.at hr5 (hnx 4)
  have hr6 := hU.at hr6 (hnx 5)
  have hr7 := hU.at hr7 (hnx 6)
  have hs7 : Hb7.size = H.size + 7 := by rw [hU.1, hn7, hs6]
  clear hU ho
  refine lv_aload_n hx hb dX5_init_60 rfl (lv_at hl 0 rfl) ?_
  refine lv_bipush (v := 8) hx hb dX5_init_61 (by decide) ?_
  refine kr_newI (N' := 8) hx hb hK hS (hts (.arrayClass .int) (by decide +kernel)) (by decide) (by decide) (by decide) (Nat.le_of_ble_eq_true rfl) (Nat.le_of_ble_eq_true rfl) dX5_init_63 (fun Ha8 hN hr8 hS => ?_)
  rw [hs7] at hr8 ⊢
  have ha := hN.at ha
  have hr1 := hN.at hr1
  have hr2 := hN.at hr2
  have hr3 := hN.at hr3
  have hr4 := hN.at hr4
  have hr5 := hN.at hr5
  have hr6 := hN.at hr6
  have hr7 := hN.at hr7
  have hn8 := hN.1
  clear hN
  refine kr_putF (T := TX5) (N := 28) (v := .ref (H.size + 7)) (ty := .array .int) hx hb hts hown hK hS ha (Or.inl rfl) rfl kin_X5_init_X5 tyX5 tyX5_ok nmX5 10 (by decide) (by decide +kernel) rfl hin rfl (by decide +kernel) rfl rfl (Nat.le_of_ble_eq_true rfl) dX5_init_65 (fun Hb8 locs hU ho hS => ?_)
  have ha : kat ε x (.inr (6, [.int 0, .int 0, .ref H.size, .ref ((H.size + 1)), .ref ((H.size + 2)), .ref ((H.size + 3)), .ref ((H.size + 4)), .int 0, .ref ((H.size + 5)), .ref ((H.size + 6)), .ref ((H.size + 7)), .null, .null, .null, .null, .null, .null, .null, .null, .null, .int 0, .null, .null, .null, .int 0, .null, .null, .int 0])) Hb8 := ho
  have hr1 := hU.at hr1 (hnx 0)
  have hr2 := hU.at hr2 (hnx 1)
  have hr3 := hU.at hr3 (hnx 2)
  have hr4 := hU.at hr4 (hnx 3)
  have hr5 := hU.at hr5 (hnx 4)
  have hr6 := hU.at hr6 (hnx 5)
  have hr7 := hU.at hr7 (hnx 6)
  have hr8 := hU.at hr8 (hnx 7)
  have hs8 : Hb8.size = H.size + 8 := by rw [hU.1, hn8, hs7]
  clear hU ho
  refine lv_aload_n hx hb dX5_init_68 rfl (lv_at hl 0 rfl) ?_
  refine lv_bipush (v := 8) hx hb dX5_init_69 (by decide) ?_
  refine kr_newI (N' := 8) hx hb hK hS (hts (.arrayClass .int) (by decide +kernel)) (by decide) (by decide) (by decide) (Nat.le_of_ble_eq_true rfl) (Nat.le_of_ble_eq_true rfl) dX5_init_71 (fun Ha9 hN hr9 hS => ?_)
  rw [hs8] at hr9 ⊢
  have ha := hN.at ha
  have hr1 := hN.at hr1
  have hr2 := hN.at hr2
  have hr3 := hN.at hr3
  have hr4 := hN.at hr4
  have hr5 := hN.at hr5
  have hr6 := hN.at hr6
  have hr7 := hN.at hr7
  have hr8 := hN.at hr8
  have hn9 := hN.1
  clear hN
  refine kr_putF (T := TX5) (N := 28) (v := .ref (H.size + 8)) (ty := .array .int) hx hb hts hown hK hS ha (Or.inl rfl) rfl kin_X5_init_X5 tyX5 tyX5_ok nmX5 11 (by decide) (by decide +kernel) rfl hin rfl (by decide +kernel) rfl rfl (Nat.le_of_ble_eq_true rfl) dX5_init_73 (fun Hb9 locs hU ho hS => ?_)
  have ha : kat ε x (.inr (6, [.int 0, .int 0, .ref H.size, .ref ((H.size + 1)), .ref ((H.size + 2)), .ref ((H.size + 3)), .ref ((H.size + 4)), .int 0, .ref ((H.size + 5)), .ref ((H.size + 6)), .ref ((H.size + 7)), .ref ((H.size + 8)), .null, .null, .null, .null, .null, .null, .null, .null, .int 0, .null, .null, .null, .int 0, .null, .null, .int 0])) Hb9 := ho
  have hr1 := hU.at hr1 (hnx 0)
  have hr2 := hU.at hr2 (hnx 1)
  have hr3 := hU.at hr3 (hnx 2)
  have hr4 := hU.at hr4 (hnx 3)
  have hr5 := hU.at hr5 (hnx 4)
  have hr6 := hU.at hr6 (hnx 5)
  have hr7 := hU.at hr7 (hnx 6)
  have hr8 := hU.at hr8 (hnx 7)
  have hr9 := hU.at hr9 (hnx 8)
  have hs9 : Hb9.size = H.size + 9 := by rw [hU.1, hn9, hs8]
  clear hU ho
  refine lv_aload_n hx hb dX5_init_76 rfl (lv_at hl 0 rfl) ?_
  refine lv_bipush (v := 8) hx hb dX5_init_77 (by decide) ?_
  refine kr_newI (N' := 8) hx hb hK hS (hts (.arrayClass .int) (by decide +kernel)) (by decide) (by decide) (by decide) (Nat.le_of_ble_eq_true rfl) (Nat.le_of_ble_eq_true rfl) dX5_init_79 (fun Ha10 hN hr10 hS => ?_)
  rw [hs9] at hr10 ⊢
  have ha := hN.at ha
  have hr1 := hN.at hr1
  have hr2 := hN.at hr2
  have hr3 := hN.at hr3
  have hr4 := hN.at hr4
  have hr5 := hN.at hr5
  have hr6 := hN.at hr6
  have hr7 := hN.at hr7
  have hr8 := hN.at hr8
  have hr9 := hN.at hr9
  have hn10 := hN.1
  clear hN
  refine kr_putF (T := TX5) (N := 28) (v := .ref (H.size + 9)) (ty := .array .int) hx hb hts hown hK hS ha (Or.inl rfl) rfl kin_X5_init_X5 tyX5 tyX5_ok nmX5 12 (by decide) (by decide +kernel) rfl hin rfl (by decide +kernel) rfl rfl (Nat.le_of_ble_eq_true rfl) dX5_init_81 (fun Hb10 locs hU ho hS => ?_)
  have ha : kat ε x (.inr (6, [.int 0, .int 0, .ref H.size, .ref ((H.size + 1)), .ref ((H.size + 2)), .ref ((H.size + 3)), .ref ((H.size + 4)), .int 0, .ref ((H.size + 5)), .ref ((H.size + 6)), .ref ((H.size + 7)), .ref ((H.size + 8)), .ref ((H.size + 9)), .null, .null, .null, .null, .null, .null, .null, .int 0, .null, .null, .null, .int 0, .null, .null, .int 0])) Hb10 := ho
  have hr1 := hU.at hr1 (hnx 0)
  have hr2 := hU.at hr2 (hnx 1)
  have hr3 := hU.at hr3 (hnx 2)
  have hr4 := hU.at hr4 (hnx 3)
  have hr5 := hU.at hr5 (hnx 4)
  have hr6 := hU.at hr6 (hnx 5)
  have hr7 := hU.at hr7 (hnx 6)
  have hr8 := hU.at hr8 (hnx 7)
  have hr9 := hU.at hr9 (hnx 8)
  have hr10 := hU.at hr10 (hnx 9)
  have hs10 : Hb10.size = H.size + 10 := by rw [hU.1, hn10, hs9]
  clear hU ho
  refine lv_aload_n hx hb dX5_init_84 rfl (lv_at hl 0 rfl) ?_
  refine lv_bipush (v := 8) hx hb dX5_init_85 (by decide) ?_
  refine kr_newI (N' := 8) hx hb hK hS (hts (.arrayClass .int) (by decide +kernel)) (by decide) (by decide) (by decide) (Nat.le_of_ble_eq_true rfl) (Nat.le_of_ble_eq_true rfl) dX5_init_87 (fun Ha11 hN hr11 hS => ?_)
  rw [hs10] at hr11 ⊢
  have ha := hN.at ha
  have hr1 := hN.at hr1
  have hr2 := hN.at hr2
  have hr3 := hN.at hr3
  have hr4 := hN.at hr4
  have hr5 := hN.at hr5
  have hr6 := hN.at hr6
  have hr7 := hN.at hr7
  have hr8 := hN.at hr8
  have hr9 := hN.at hr9
  have hr10 := hN.at hr10
  have hn11 := hN.1
  clear hN
  refine kr_putF (T := TX5) (N := 28) (v := .ref (H.size + 10)) (ty := .array .int) hx hb hts hown hK hS ha (Or.inl rfl) rfl kin_X5_init_X5 tyX5 tyX5_ok nmX5 13 (by decide) (by decide +kernel) rfl hin rfl (by decide +kernel) rfl rfl (Nat.le_of_ble_eq_true rfl) dX5_init_89 (fun Hb11 locs hU ho hS => ?_)
  have ha : kat ε x (.inr (6, [.int 0, .int 0, .ref H.size, .ref ((H.size + 1)), .ref ((H.size + 2)), .ref ((H.size + 3)), .ref ((H.size + 4)), .int 0, .ref ((H.size + 5)), .ref ((H.size + 6)), .ref ((H.size + 7)), .ref ((H.size + 8)), .ref ((H.size + 9)), .ref ((H.size + 10)), .null, .null, .null, .null, .null, .null, .int 0, .null, .null, .null, .int 0, .null, .null, .int 0])) Hb11 := ho
  have hr1 := hU.at hr1 (hnx 0)
  have hr2 := hU.at hr2 (hnx 1)
  have hr3 := hU.at hr3 (hnx 2)
  have hr4 := hU.at hr4 (hnx 3)
  have hr5 := hU.at hr5 (hnx 4)
  have hr6 := hU.at hr6 (hnx 5)
  have hr7 := hU.at hr7 (hnx 6)
  have hr8 := hU.at hr8 (hnx 7)
  have hr9 := hU.at hr9 (hnx 8)
  have hr10 := hU.at hr10 (hnx 9)
  have hr11 := hU.at hr11 (hnx 10)
  have hs11 : Hb11.size = H.size + 11 := by rw [hU.1, hn11, hs10]
  clear hU ho
  refine lv_aload_n hx hb dX5_init_92 rfl (lv_at hl 0 rfl) ?_
  refine lv_bipush (v := 8) hx hb dX5_init_93 (by decide) ?_
  refine kr_newI (N' := 8) hx hb hK hS (hts (.arrayClass .int) (by decide +kernel)) (by decide) (by decide) (by decide) (Nat.le_of_ble_eq_true rfl) (Nat.le_of_ble_eq_true rfl) dX5_init_95 (fun Ha12 hN hr12 hS => ?_)
  rw [hs11] at hr12 ⊢
  have ha := hN.at ha
  have hr1 := hN.at hr1
  have hr2 := hN.at hr2
  have hr3 := hN.at hr3
  have hr4 := hN.at hr4
  have hr5 := hN.at hr5
  have hr6 := hN.at hr6
  have hr7 := hN.at hr7
  have hr8 := hN.at hr8
  have hr9 := hN.at hr9
  have hr10 := hN.at hr10
  have hr11 := hN.at hr11
  have hn12 := hN.1
  clear hN
  refine kr_putF (T := TX5) (N := 28) (v := .ref (H.size + 11)) (ty := .array .int) hx hb hts hown hK hS ha (Or.inl rfl) rfl kin_X5_init_X5 tyX5 tyX5_ok nmX5 14 (by decide) (by decide +kernel) rfl hin rfl (by decide +kernel) rfl rfl (Nat.le_of_ble_eq_true rfl) dX5_init_97 (fun Hb12 locs hU ho hS => ?_)
  have ha : kat ε x (.inr (6, [.int 0, .int 0, .ref H.size, .ref ((H.size + 1)), .ref ((H.size + 2)), .ref ((H.size + 3)), .ref ((H.size + 4)), .int 0, .ref ((H.size + 5)), .ref ((H.size + 6)), .ref ((H.size + 7)), .ref ((H.size + 8)), .ref ((H.size + 9)), .ref ((H.size + 10)), .ref ((H.size + 11)), .null, .null, .null, .null, .null, .int 0, .null, .null, .null, .int 0, .null, .null, .int 0])) Hb12 := ho
  have hr1 := hU.at hr1 (hnx 0)
  have hr2 := hU.at hr2 (hnx 1)
  have hr3 := hU.at hr3 (hnx 2)
  have hr4 := hU.at hr4 (hnx 3)
  have hr5 := hU.at hr5 (hnx 4)
  have hr6 := hU.at hr6 (hnx 5)
  have hr7 := hU.at hr7 (hnx 6)
  have hr8 := hU.at hr8 (hnx 7)
  have hr9 := hU.at hr9 (hnx 8)
  have hr10 := hU.at hr10 (hnx 9)
  have hr11 := hU.at hr11 (hnx 10)
  have hr12 := hU.at hr12 (hnx 11)
  have hs12 : Hb12.size = H.size + 12 := by rw [hU.1, hn12, hs11]
  clear hU ho
  refine lv_aload_n hx hb dX5_init_100 rfl (lv_at hl 0 rfl) ?_
  refine lv_bipush (v := 8) hx hb dX5_init_101 (by decide) ?_
  refine kr_newI (N' := 8) hx hb hK hS (hts (.arrayClass .int) (by decide +kernel)) (by decide) (by decide) (by decide) (Nat.le_of_ble_eq_true rfl) (Nat.le_of_ble_eq_true rfl) dX5_init_103 (fun Ha13 hN hr13 hS => ?_)
  rw [hs12] at hr13 ⊢
  have ha := hN.at ha
  have hr1 := hN.at hr1
  have hr2 := hN.at hr2
  have hr3 := hN.at hr3
  have hr4 := hN.at hr4
  have hr5 := hN.at hr5
  have hr6 := hN.at hr6
  have hr7 := hN.at hr7
  have hr8 := hN.at hr8
  have hr9 := hN.at hr9
  have hr10 := hN.at hr10
  have hr11 := hN.at hr11
  have hr12 := hN.at hr12
  have hn13 := hN.1
  clear hN
  refine kr_putF (T := TX5) (N := 28) (v := .ref (H.size + 12)) (ty := .array .int) hx hb hts hown hK hS ha (Or.inl rfl) rfl kin_X5_init_X5 tyX5 tyX5_ok nmX5 15 (by decide) (by decide +kernel) rfl hin rfl (by decide +kernel) rfl rfl (Nat.le_of_ble_eq_true rfl) dX5_init_105 (fun Hb13 locs hU ho hS => ?_)
  have ha : kat ε x (.inr (6, [.int 0, .int 0, .ref H.size, .ref ((H.size + 1)), .ref ((H.size + 2)), .ref ((H.size + 3)), .ref ((H.size + 4)), .int 0, .ref ((H.size + 5)), .ref ((H.size + 6)), .ref ((H.size + 7)), .ref ((H.size + 8)), .ref ((H.size + 9)), .ref ((H.size + 10)), .ref ((H.size + 11)), .ref ((H.size + 12)), .null, .null, .null, .null, .int 0, .null, .null, .null, .int 0, .null, .null, .int 0])) Hb13 := ho
  have hr1 := hU.at hr1 (hnx 0)
  have hr2 := hU.at hr2 (hnx 1)
  have hr3 := hU.at hr3 (hnx 2)
  have hr4 := hU.at hr4 (hnx 3)
  have hr5 := hU.at hr5 (hnx 4)
  have hr6 := hU.at hr6 (hnx 5)
  have hr7 := hU.at hr7 (hnx 6)
  have hr8 := hU.at hr8 (hnx 7)
  have hr9 := hU.at hr9 (hnx 8)
  have hr10 := hU.at hr10 (hnx 9)
  have hr11 := hU.at hr11 (hnx 10)
  have hr12 := hU.at hr12 (hnx 11)
  have hr13 := hU.at hr13 (hnx 12)
  have hs13 : Hb13.size = H.size + 13 := by rw [hU.1, hn13, hs12]
  clear hU ho
  refine lv_aload_n hx hb dX5_init_108 rfl (lv_at hl 0 rfl) ?_
  refine lv_bipush (v := 48) hx hb dX5_init_109 (by decide) ?_
  refine kr_newZ (N' := 48) hx hb hK hS (hts (.arrayClass .boolean) (by decide +kernel)) (by decide) (by decide) (by decide) (Nat.le_of_ble_eq_true rfl) (Nat.le_of_ble_eq_true rfl) dX5_init_111 (fun Ha14 hN hr14 hS => ?_)
  rw [hs13] at hr14 ⊢
  have ha := hN.at ha
  have hr1 := hN.at hr1
  have hr2 := hN.at hr2
  have hr3 := hN.at hr3
  have hr4 := hN.at hr4
  have hr5 := hN.at hr5
  have hr6 := hN.at hr6
  have hr7 := hN.at hr7
  have hr8 := hN.at hr8
  have hr9 := hN.at hr9
  have hr10 := hN.at hr10
  have hr11 := hN.at hr11
  have hr12 := hN.at hr12
  have hr13 := hN.at hr13
  have hn14 := hN.1
  clear hN
  refine kr_putF (T := TX5) (N := 28) (v := .ref (H.size + 13)) (ty := .array .boolean) hx hb hts hown hK hS ha (Or.inl rfl) rfl kin_X5_init_X5 tyX5 tyX5_ok nmX5 16 (by decide) (by decide +kernel) rfl hin rfl (by decide +kernel) rfl rfl (Nat.le_of_ble_eq_true rfl) dX5_init_113 (fun Hb14 locs hU ho hS => ?_)
  have ha : kat ε x (.inr (6, [.int 0, .int 0, .ref H.size, .ref ((H.size + 1)), .ref ((H.size + 2)), .ref ((H.size + 3)), .ref ((H.size + 4)), .int 0, .ref ((H.size + 5)), .ref ((H.size + 6)), .ref ((H.size + 7)), .ref ((H.size + 8)), .ref ((H.size + 9)), .ref ((H.size + 10)), .ref ((H.size + 11)), .ref ((H.size + 12)), .ref ((H.size + 13)), .null, .null, .null, .int 0, .null, .null, .null, .int 0, .null, .null, .int 0])) Hb14 := ho
  have hr1 := hU.at hr1 (hnx 0)
  have hr2 := hU.at hr2 (hnx 1)
  have hr3 := hU.at hr3 (hnx 2)
  have hr4 := hU.at hr4 (hnx 3)
  have hr5 := hU.at hr5 (hnx 4)
  have hr6 := hU.at hr6 (hnx 5)
  have hr7 := hU.at hr7 (hnx 6)
  have hr8 := hU.at hr8 (hnx 7)
  have hr9 := hU.at hr9 (hnx 8)
  have hr10 := hU.at hr10 (hnx 9)
  have hr11 := hU.at hr11 (hnx 10)
  have hr12 := hU.at hr12 (hnx 11)
  have hr13 := hU.at hr13 (hnx 12)
  have hr14 := hU.at hr14 (hnx 13)
  have hs14 : Hb14.size = H.size + 14 := by rw [hU.1, hn14, hs13]
  clear hU ho
  refine lv_aload_n hx hb dX5_init_116 rfl (lv_at hl 0 rfl) ?_
  refine lv_bipush (v := 48) hx hb dX5_init_117 (by decide) ?_
  refine kr_newI (N' := 48) hx hb hK hS (hts (.arrayClass .int) (by decide +kernel)) (by decide) (by decide) (by decide) (Nat.le_of_ble_eq_true rfl) (Nat.le_of_ble_eq_true rfl) dX5_init_119 (fun Ha15 hN hr15 hS => ?_)
  rw [hs14] at hr15 ⊢
  have ha := hN.at ha
  have hr1 := hN.at hr1
  have hr2 := hN.at hr2
  have hr3 := hN.at hr3
  have hr4 := hN.at hr4
  have hr5 := hN.at hr5
  have hr6 := hN.at hr6
  have hr7 := hN.at hr7
  have hr8 := hN.at hr8
  have hr9 := hN.at hr9
  have hr10 := hN.at hr10
  have hr11 := hN.at hr11
  have hr12 := hN.at hr12
  have hr13 := hN.at hr13
  have hr14 := hN.at hr14
  have hn15 := hN.1
  clear hN
  refine kr_putF (T := TX5) (N := 28) (v := .ref (H.size + 14)) (ty := .array .int) hx hb hts hown hK hS ha (Or.inl rfl) rfl kin_X5_init_X5 tyX5 tyX5_ok nmX5 17 (by decide) (by decide +kernel) rfl hin rfl (by decide +kernel) rfl rfl (Nat.le_of_ble_eq_true rfl) dX5_init_121 (fun Hb15 locs hU ho hS => ?_)
  have ha : kat ε x (.inr (6, [.int 0, .int 0, .ref H.size, .ref ((H.size + 1)), .ref ((H.size + 2)), .ref ((H.size + 3)), .ref ((H.size + 4)), .int 0, .ref ((H.size + 5)), .ref ((H.size + 6)), .ref ((H.size + 7)), .ref ((H.size + 8)), .ref ((H.size + 9)), .ref ((H.size + 10)), .ref ((H.size + 11)), .ref ((H.size + 12)), .ref ((H.size + 13)), .ref ((H.size + 14)), .null, .null, .int 0, .null, .null, .null, .int 0, .null, .null, .int 0])) Hb15 := ho
  have hr1 := hU.at hr1 (hnx 0)
  have hr2 := hU.at hr2 (hnx 1)
  have hr3 := hU.at hr3 (hnx 2)
  have hr4 := hU.at hr4 (hnx 3)
  have hr5 := hU.at hr5 (hnx 4)
  have hr6 := hU.at hr6 (hnx 5)
  have hr7 := hU.at hr7 (hnx 6)
  have hr8 := hU.at hr8 (hnx 7)
  have hr9 := hU.at hr9 (hnx 8)
  have hr10 := hU.at hr10 (hnx 9)
  have hr11 := hU.at hr11 (hnx 10)
  have hr12 := hU.at hr12 (hnx 11)
  have hr13 := hU.at hr13 (hnx 12)
  have hr14 := hU.at hr14 (hnx 13)
  have hr15 := hU.at hr15 (hnx 14)
  have hs15 : Hb15.size = H.size + 15 := by rw [hU.1, hn15, hs14]
  clear hU ho
  refine lv_aload_n hx hb dX5_init_124 rfl (lv_at hl 0 rfl) ?_
  refine lv_bipush (v := 48) hx hb dX5_init_125 (by decide) ?_
  refine kr_newI (N' := 48) hx hb hK hS (hts (.arrayClass .int) (by decide +kernel)) (by decide) (by decide) (by decide) (Nat.le_of_ble_eq_true rfl) (Nat.le_of_ble_eq_true rfl) dX5_init_127 (fun Ha16 hN hr16 hS => ?_)
  rw [hs15] at hr16 ⊢
  have ha := hN.at ha
  have hr1 := hN.at hr1
  have hr2 := hN.at hr2
  have hr3 := hN.at hr3
  have hr4 := hN.at hr4
  have hr5 := hN.at hr5
  have hr6 := hN.at hr6
  have hr7 := hN.at hr7
  have hr8 := hN.at hr8
  have hr9 := hN.at hr9
  have hr10 := hN.at hr10
  have hr11 := hN.at hr11
  have hr12 := hN.at hr12
  have hr13 := hN.at hr13
  have hr14 := hN.at hr14
  have hr15 := hN.at hr15
  have hn16 := hN.1
  clear hN
  refine kr_putF (T := TX5) (N := 28) (v := .ref (H.size + 15)) (ty := .array .int) hx hb hts hown hK hS ha (Or.inl rfl) rfl kin_X5_init_X5 tyX5 tyX5_ok nmX5 18 (by decide) (by decide +kernel) rfl hin rfl (by decide +kernel) rfl rfl (Nat.le_of_ble_eq_true rfl) dX5_init_129 (fun Hb16 locs hU ho hS => ?_)
  have ha : kat ε x (.inr (6, [.int 0, .int 0, .ref H.size, .ref ((H.size + 1)), .ref ((H.size + 2)), .ref ((H.size + 3)), .ref ((H.size + 4)), .int 0, .ref ((H.size + 5)), .ref ((H.size + 6)), .ref ((H.size + 7)), .ref ((H.size + 8)), .ref ((H.size + 9)), .ref ((H.size + 10)), .ref ((H.size + 11)), .ref ((H.size + 12)), .ref ((H.size + 13)), .ref ((H.size + 14)), .ref ((H.size + 15)), .null, .int 0, .null, .null, .null, .int 0, .null, .null, .int 0])) Hb16 := ho
  have hr1 := hU.at hr1 (hnx 0)
  have hr2 := hU.at hr2 (hnx 1)
  have hr3 := hU.at hr3 (hnx 2)
  have hr4 := hU.at hr4 (hnx 3)
  have hr5 := hU.at hr5 (hnx 4)
  have hr6 := hU.at hr6 (hnx 5)
  have hr7 := hU.at hr7 (hnx 6)
  have hr8 := hU.at hr8 (hnx 7)
  have hr9 := hU.at hr9 (hnx 8)
  have hr10 := hU.at hr10 (hnx 9)
  have hr11 := hU.at hr11 (hnx 10)
  have hr12 := hU.at hr12 (hnx 11)
  have hr13 := hU.at hr13 (hnx 12)
  have hr14 := hU.at hr14 (hnx 13)
  have hr15 := hU.at hr15 (hnx 14)
  have hr16 := hU.at hr16 (hnx 15)
  have hs16 : Hb16.size = H.size + 16 := by rw [hU.1, hn16, hs15]
  clear hU ho
  refine lv_aload_n hx hb dX5_init_132 rfl (lv_at hl 0 rfl) ?_
  refine lv_bipush (v := 48) hx hb dX5_init_133 (by decide) ?_
  refine kr_newI (N' := 48) hx hb hK hS (hts (.arrayClass .int) (by decide +kernel)) (by decide) (by decide) (by decide) (Nat.le_of_ble_eq_true rfl) (Nat.le_of_ble_eq_true rfl) dX5_init_135 (fun Ha17 hN hr17 hS => ?_)
  rw [hs16] at hr17 ⊢
  have ha := hN.at ha
  have hr1 := hN.at hr1
  have hr2 := hN.at hr2
  have hr3 := hN.at hr3
  have hr4 := hN.at hr4
  have hr5 := hN.at hr5
  have hr6 := hN.at hr6
  have hr7 := hN.at hr7
  have hr8 := hN.at hr8
  have hr9 := hN.at hr9
  have hr10 := hN.at hr10
  have hr11 := hN.at hr11
  have hr12 := hN.at hr12
  have hr13 := hN.at hr13
  have hr14 := hN.at hr14
  have hr15 := hN.at hr15
  have hr16 := hN.at hr16
  have hn17 := hN.1
  clear hN
  refine kr_putF (T := TX5) (N := 28) (v := .ref (H.size + 16)) (ty := .array .int) hx hb hts hown hK hS ha (Or.inl rfl) rfl kin_X5_init_X5 tyX5 tyX5_ok nmX5 19 (by decide) (by decide +kernel) rfl hin rfl (by decide +kernel) rfl rfl (Nat.le_of_ble_eq_true rfl) dX5_init_137 (fun Hb17 locs hU ho hS => ?_)
  have ha : kat ε x (.inr (6, [.int 0, .int 0, .ref H.size, .ref ((H.size + 1)), .ref ((H.size + 2)), .ref ((H.size + 3)), .ref ((H.size + 4)), .int 0, .ref ((H.size + 5)), .ref ((H.size + 6)), .ref ((H.size + 7)), .ref ((H.size + 8)), .ref ((H.size + 9)), .ref ((H.size + 10)), .ref ((H.size + 11)), .ref ((H.size + 12)), .ref ((H.size + 13)), .ref ((H.size + 14)), .ref ((H.size + 15)), .ref ((H.size + 16)), .int 0, .null, .null, .null, .int 0, .null, .null, .int 0])) Hb17 := ho
  have hr1 := hU.at hr1 (hnx 0)
  have hr2 := hU.at hr2 (hnx 1)
  have hr3 := hU.at hr3 (hnx 2)
  have hr4 := hU.at hr4 (hnx 3)
  have hr5 := hU.at hr5 (hnx 4)
  have hr6 := hU.at hr6 (hnx 5)
  have hr7 := hU.at hr7 (hnx 6)
  have hr8 := hU.at hr8 (hnx 7)
  have hr9 := hU.at hr9 (hnx 8)
  have hr10 := hU.at hr10 (hnx 9)
  have hr11 := hU.at hr11 (hnx 10)
  have hr12 := hU.at hr12 (hnx 11)
  have hr13 := hU.at hr13 (hnx 12)
  have hr14 := hU.at hr14 (hnx 13)
  have hr15 := hU.at hr15 (hnx 14)
  have hr16 := hU.at hr16 (hnx 15)
  have hr17 := hU.at hr17 (hnx 16)
  have hs17 : Hb17.size = H.size + 17 := by rw [hU.1, hn17, hs16]
  clear hU ho
  refine lv_aload_n hx hb dX5_init_140 rfl (lv_at hl 0 rfl) ?_
  refine lv_bipush (v := 12) hx hb dX5_init_141 (by decide) ?_
  refine kr_newI (N' := 12) hx hb hK hS (hts (.arrayClass .int) (by decide +kernel)) (by decide) (by decide) (by decide) (Nat.le_of_ble_eq_true rfl) (Nat.le_of_ble_eq_true rfl) dX5_init_143 (fun Ha18 hN hr18 hS => ?_)
  rw [hs17] at hr18 ⊢
  have ha := hN.at ha
  have hr1 := hN.at hr1
  have hr2 := hN.at hr2
  have hr3 := hN.at hr3
  have hr4 := hN.at hr4
  have hr5 := hN.at hr5
  have hr6 := hN.at hr6
  have hr7 := hN.at hr7
  have hr8 := hN.at hr8
  have hr9 := hN.at hr9
  have hr10 := hN.at hr10
  have hr11 := hN.at hr11
  have hr12 := hN.at hr12
  have hr13 := hN.at hr13
  have hr14 := hN.at hr14
  have hr15 := hN.at hr15
  have hr16 := hN.at hr16
  have hr17 := hN.at hr17
  have hn18 := hN.1
  clear hN
  refine kr_putF (T := TX5) (N := 28) (v := .ref (H.size + 17)) (ty := .array .int) hx hb hts hown hK hS ha (Or.inl rfl) rfl kin_X5_init_X5 tyX5 tyX5_ok nmX5 21 (by decide) (by decide +kernel) rfl hin rfl (by decide +kernel) rfl rfl (Nat.le_of_ble_eq_true rfl) dX5_init_145 (fun Hb18 locs hU ho hS => ?_)
  have ha : kat ε x (.inr (6, [.int 0, .int 0, .ref H.size, .ref ((H.size + 1)), .ref ((H.size + 2)), .ref ((H.size + 3)), .ref ((H.size + 4)), .int 0, .ref ((H.size + 5)), .ref ((H.size + 6)), .ref ((H.size + 7)), .ref ((H.size + 8)), .ref ((H.size + 9)), .ref ((H.size + 10)), .ref ((H.size + 11)), .ref ((H.size + 12)), .ref ((H.size + 13)), .ref ((H.size + 14)), .ref ((H.size + 15)), .ref ((H.size + 16)), .int 0, .ref ((H.size + 17)), .null, .null, .int 0, .null, .null, .int 0])) Hb18 := ho
  have hr1 := hU.at hr1 (hnx 0)
  have hr2 := hU.at hr2 (hnx 1)
  have hr3 := hU.at hr3 (hnx 2)
  have hr4 := hU.at hr4 (hnx 3)
  have hr5 := hU.at hr5 (hnx 4)
  have hr6 := hU.at hr6 (hnx 5)
  have hr7 := hU.at hr7 (hnx 6)
  have hr8 := hU.at hr8 (hnx 7)
  have hr9 := hU.at hr9 (hnx 8)
  have hr10 := hU.at hr10 (hnx 9)
  have hr11 := hU.at hr11 (hnx 10)
  have hr12 := hU.at hr12 (hnx 11)
  have hr13 := hU.at hr13 (hnx 12)
  have hr14 := hU.at hr14 (hnx 13)
  have hr15 := hU.at hr15 (hnx 14)
  have hr16 := hU.at hr16 (hnx 15)
  have hr17 := hU.at hr17 (hnx 16)
  have hr18 := hU.at hr18 (hnx 17)
  have hs18 : Hb18.size = H.size + 18 := by rw [hU.1, hn18, hs17]
  clear hU ho
  refine lv_aload_n hx hb dX5_init_148 rfl (lv_at hl 0 rfl) ?_
  refine lv_bipush (v := 12) hx hb dX5_init_149 (by decide) ?_
  refine kr_newI (N' := 12) hx hb hK hS (hts (.arrayClass .int) (by decide +kernel)) (by decide) (by decide) (by decide) (Nat.le_of_ble_eq_true rfl) (Nat.le_of_ble_eq_true rfl) dX5_init_151 (fun Ha19 hN hr19 hS => ?_)
  rw [hs18] at hr19 ⊢
  have ha := hN.at ha
  have hr1 := hN.at hr1
  have hr2 := hN.at hr2
  have hr3 := hN.at hr3
  have hr4 := hN.at hr4
  have hr5 := hN.at hr5
  have hr6 := hN.at hr6
  have hr7 := hN.at hr7
  have hr8 := hN.at hr8
  have hr9 := hN.at hr9
  have hr10 := hN.at hr10
  have hr11 := hN.at hr11
  have hr12 := hN.at hr12
  have hr13 := hN.at hr13
  have hr14 := hN.at hr14
  have hr15 := hN.at hr15
  have hr16 := hN.at hr16
  have hr17 := hN.at hr17
  have hr18 := hN.at hr18
  have hn19 := hN.1
  clear hN
  refine kr_putF (T := TX5) (N := 28) (v := .ref (H.size + 18)) (ty := .array .int) hx hb hts hown hK hS ha (Or.inl rfl) rfl kin_X5_init_X5 tyX5 tyX5_ok nmX5 22 (by decide) (by decide +kernel) rfl hin rfl (by decide +kernel) rfl rfl (Nat.le_of_ble_eq_true rfl) dX5_init_153 (fun Hb19 locs hU ho hS => ?_)
  have ha : kat ε x (.inr (6, [.int 0, .int 0, .ref H.size, .ref ((H.size + 1)), .ref ((H.size + 2)), .ref ((H.size + 3)), .ref ((H.size + 4)), .int 0, .ref ((H.size + 5)), .ref ((H.size + 6)), .ref ((H.size + 7)), .ref ((H.size + 8)), .ref ((H.size + 9)), .ref ((H.size + 10)), .ref ((H.size + 11)), .ref ((H.size + 12)), .ref ((H.size + 13)), .ref ((H.size + 14)), .ref ((H.size + 15)), .ref ((H.size + 16)), .int 0, .ref ((H.size + 17)), .ref ((H.size + 18)), .null, .int 0, .null, .null, .int 0])) Hb19 := ho
  have hr1 := hU.at hr1 (hnx 0)
  have hr2 := hU.at hr2 (hnx 1)
  have hr3 := hU.at hr3 (hnx 2)
  have hr4 := hU.at hr4 (hnx 3)
  have hr5 := hU.at hr5 (hnx 4)
  have hr6 := hU.at hr6 (hnx 5)
  have hr7 := hU.at hr7 (hnx 6)
  have hr8 := hU.at hr8 (hnx 7)
  have hr9 := hU.at hr9 (hnx 8)
  have hr10 := hU.at hr10 (hnx 9)
  have hr11 := hU.at hr11 (hnx 10)
  have hr12 := hU.at hr12 (hnx 11)
  have hr13 := hU.at hr13 (hnx 12)
  have hr14 := hU.at hr14 (hnx 13)
  have hr15 := hU.at hr15 (hnx 14)
  have hr16 := hU.at hr16 (hnx 15)
  have hr17 := hU.at hr17 (hnx 16)
  have hr18 := hU.at hr18 (hnx 17)
  have hr19 := hU.at hr19 (hnx 18)
  have hs19 : Hb19.size = H.size + 19 := by rw [hU.1, hn19, hs18]
  clear hU ho
  refine lv_aload_n hx hb dX5_init_156 rfl (lv_at hl 0 rfl) ?_
  refine lv_bipush (v := 12) hx hb dX5_init_157 (by decide) ?_
  refine kr_newI (N' := 12) hx hb hK hS (hts (.arrayClass .int) (by decide +kernel)) (by decide) (by decide) (by decide) (Nat.le_of_ble_eq_true rfl) (Nat.le_of_ble_eq_true rfl) dX5_init_159 (fun Ha20 hN hr20 hS => ?_)
  rw [hs19] at hr20 ⊢
  have ha := hN.at ha
  have hr1 := hN.at hr1
  have hr2 := hN.at hr2
  have hr3 := hN.at hr3
  have hr4 := hN.at hr4
  have hr5 := hN.at hr5
  have hr6 := hN.at hr6
  have hr7 := hN.at hr7
  have hr8 := hN.at hr8
  have hr9 := hN.at hr9
  have hr10 := hN.at hr10
  have hr11 := hN.at hr11
  have hr12 := hN.at hr12
  have hr13 := hN.at hr13
  have hr14 := hN.at hr14
  have hr15 := hN.at hr15
  have hr16 := hN.at hr16
  have hr17 := hN.at hr17
  have hr18 := hN.at hr18
  have hr19 := hN.at hr19
  have hn20 := hN.1
  clear hN
  refine kr_putF (T := TX5) (N := 28) (v := .ref (H.size + 19)) (ty := .array .int) hx hb hts hown hK hS ha (Or.inl rfl) rfl kin_X5_init_X5 tyX5 tyX5_ok nmX5 23 (by decide) (by decide +kernel) rfl hin rfl (by decide +kernel) rfl rfl (Nat.le_of_ble_eq_true rfl) dX5_init_161 (fun Hb20 locs hU ho hS => ?_)
  have ha : kat ε x (.inr (6, [.int 0, .int 0, .ref H.size, .ref ((H.size + 1)), .ref ((H.size + 2)), .ref ((H.size + 3)), .ref ((H.size + 4)), .int 0, .ref ((H.size + 5)), .ref ((H.size + 6)), .ref ((H.size + 7)), .ref ((H.size + 8)), .ref ((H.size + 9)), .ref ((H.size + 10)), .ref ((H.size + 11)), .ref ((H.size + 12)), .ref ((H.size + 13)), .ref ((H.size + 14)), .ref ((H.size + 15)), .ref ((H.size + 16)), .int 0, .ref ((H.size + 17)), .ref ((H.size + 18)), .ref ((H.size + 19)), .int 0, .null, .null, .int 0])) Hb20 := ho
  have hr1 := hU.at hr1 (hnx 0)
  have hr2 := hU.at hr2 (hnx 1)
  have hr3 := hU.at hr3 (hnx 2)
  have hr4 := hU.at hr4 (hnx 3)
  have hr5 := hU.at hr5 (hnx 4)
  have hr6 := hU.at hr6 (hnx 5)
  have hr7 := hU.at hr7 (hnx 6)
  have hr8 := hU.at hr8 (hnx 7)
  have hr9 := hU.at hr9 (hnx 8)
  have hr10 := hU.at hr10 (hnx 9)
  have hr11 := hU.at hr11 (hnx 10)
  have hr12 := hU.at hr12 (hnx 11)
  have hr13 := hU.at hr13 (hnx 12)
  have hr14 := hU.at hr14 (hnx 13)
  have hr15 := hU.at hr15 (hnx 14)
  have hr16 := hU.at hr16 (hnx 15)
  have hr17 := hU.at hr17 (hnx 16)
  have hr18 := hU.at hr18 (hnx 17)
  have hr19 := hU.at hr19 (hnx 18)
  have hr20 := hU.at hr20 (hnx 19)
  have hs20 : Hb20.size = H.size + 20 := by rw [hU.1, hn20, hs19]
  clear hU ho
  refine lv_aload_n hx hb dX5_init_164 rfl (lv_at hl 0 rfl) ?_
  refine lv_ldc (own := RX5) (v := 60000) hx hb hown (hts (.constant RX5 71 (60000)) (by decide +kernel)) dX5_init_165 ?_
  refine kr_newI (N' := 60000) hx hb hK hS (hts (.arrayClass .int) (by decide +kernel)) (by decide) (by decide) (by decide) (Nat.le_of_ble_eq_true rfl) (Nat.le_of_ble_eq_true rfl) dX5_init_167 (fun Ha21 hN hr21 hS => ?_)
  rw [hs20] at hr21 ⊢
  have ha := hN.at ha
  have hr1 := hN.at hr1
  have hr2 := hN.at hr2
  have hr3 := hN.at hr3
  have hr4 := hN.at hr4
  have hr5 := hN.at hr5
  have hr6 := hN.at hr6
  have hr7 := hN.at hr7
  have hr8 := hN.at hr8
  have hr9 := hN.at hr9
  have hr10 := hN.at hr10
  have hr11 := hN.at hr11
  have hr12 := hN.at hr12
  have hr13 := hN.at hr13
  have hr14 := hN.at hr14
  have hr15 := hN.at hr15
  have hr16 := hN.at hr16
  have hr17 := hN.at hr17
  have hr18 := hN.at hr18
  have hr19 := hN.at hr19
  have hr20 := hN.at hr20
  have hn21 := hN.1
  clear hN
  refine kr_putF (T := TX5) (N := 28) (v := .ref (H.size + 20)) (ty := .array .int) hx hb hts hown hK hS ha (Or.inl rfl) rfl kin_X5_init_X5 tyX5 tyX5_ok nmX5 25 (by decide) (by decide +kernel) rfl hin rfl (by decide +kernel) rfl rfl (Nat.le_of_ble_eq_true rfl) dX5_init_169 (fun Hb21 locs hU ho hS => ?_)
  have ha : kat ε x (.inr (6, [.int 0, .int 0, .ref H.size, .ref ((H.size + 1)), .ref ((H.size + 2)), .ref ((H.size + 3)), .ref ((H.size + 4)), .int 0, .ref ((H.size + 5)), .ref ((H.size + 6)), .ref ((H.size + 7)), .ref ((H.size + 8)), .ref ((H.size + 9)), .ref ((H.size + 10)), .ref ((H.size + 11)), .ref ((H.size + 12)), .ref ((H.size + 13)), .ref ((H.size + 14)), .ref ((H.size + 15)), .ref ((H.size + 16)), .int 0, .ref ((H.size + 17)), .ref ((H.size + 18)), .ref ((H.size + 19)), .int 0, .ref ((H.size + 20)), .null, .int 0])) Hb21 := ho
  have hr1 := hU.at hr1 (hnx 0)
  have hr2 := hU.at hr2 (hnx 1)
  have hr3 := hU.at hr3 (hnx 2)
  have hr4 := hU.at hr4 (hnx 3)
  have hr5 := hU.at hr5 (hnx 4)
  have hr6 := hU.at hr6 (hnx 5)
  have hr7 := hU.at hr7 (hnx 6)
  have hr8 := hU.at hr8 (hnx 7)
  have hr9 := hU.at hr9 (hnx 8)
  have hr10 := hU.at hr10 (hnx 9)
  have hr11 := hU.at hr11 (hnx 10)
  have hr12 := hU.at hr12 (hnx 11)
  have hr13 := hU.at hr13 (hnx 12)
  have hr14 := hU.at hr14 (hnx 13)
  have hr15 := hU.at hr15 (hnx 14)
  have hr16 := hU.at hr16 (hnx 15)
  have hr17 := hU.at hr17 (hnx 16)
  have hr18 := hU.at hr18 (hnx 17)
  have hr19 := hU.at hr19 (hnx 18)
  have hr20 := hU.at hr20 (hnx 19)
  have hr21 := hU.at hr21 (hnx 20)
  have hs21 : Hb21.size = H.size + 21 := by rw [hU.1, hn21, hs20]
  clear hU ho
  refine lv_aload_n hx hb dX5_init_172 rfl (lv_at hl 0 rfl) ?_
  refine lv_ldc (own := RX5) (v := 60000) hx hb hown (hts (.constant RX5 71 (60000)) (by decide +kernel)) dX5_init_173 ?_
  refine kr_newI (N' := 60000) hx hb hK hS (hts (.arrayClass .int) (by decide +kernel)) (by decide) (by decide) (by decide) (Nat.le_of_ble_eq_true rfl) (Nat.le_of_ble_eq_true rfl) dX5_init_175 (fun Ha22 hN hr22 hS => ?_)
  rw [hs21] at hr22 ⊢
  have ha := hN.at ha
  have hr1 := hN.at hr1
  have hr2 := hN.at hr2
  have hr3 := hN.at hr3
  have hr4 := hN.at hr4
  have hr5 := hN.at hr5
  have hr6 := hN.at hr6
  have hr7 := hN.at hr7
  have hr8 := hN.at hr8
  have hr9 := hN.at hr9
  have hr10 := hN.at hr10
  have hr11 := hN.at hr11
  have hr12 := hN.at hr12
  have hr13 := hN.at hr13
  have hr14 := hN.at hr14
  have hr15 := hN.at hr15
  have hr16 := hN.at hr16
  have hr17 := hN.at hr17
  have hr18 := hN.at hr18
  have hr19 := hN.at hr19
  have hr20 := hN.at hr20
  have hr21 := hN.at hr21
  have hn22 := hN.1
  clear hN
  refine kr_putF (T := TX5) (N := 28) (v := .ref (H.size + 21)) (ty := .array .int) hx hb hts hown hK hS ha (Or.inl rfl) rfl kin_X5_init_X5 tyX5 tyX5_ok nmX5 26 (by decide) (by decide +kernel) rfl hin rfl (by decide +kernel) rfl rfl (Nat.le_of_ble_eq_true rfl) dX5_init_177 (fun Hb22 locs hU ho hS => ?_)
  have ha : kat ε x (.inr (6, [.int 0, .int 0, .ref H.size, .ref ((H.size + 1)), .ref ((H.size + 2)), .ref ((H.size + 3)), .ref ((H.size + 4)), .int 0, .ref ((H.size + 5)), .ref ((H.size + 6)), .ref ((H.size + 7)), .ref ((H.size + 8)), .ref ((H.size + 9)), .ref ((H.size + 10)), .ref ((H.size + 11)), .ref ((H.size + 12)), .ref ((H.size + 13)), .ref ((H.size + 14)), .ref ((H.size + 15)), .ref ((H.size + 16)), .int 0, .ref ((H.size + 17)), .ref ((H.size + 18)), .ref ((H.size + 19)), .int 0, .ref ((H.size + 20)), .ref ((H.size + 21)), .int 0])) Hb22 := ho
  have hr1 := hU.at hr1 (hnx 0)
  have hr2 := hU.at hr2 (hnx 1)
  have hr3 := hU.at hr3 (hnx 2)
  have hr4 := hU.at hr4 (hnx 3)
  have hr5 := hU.at hr5 (hnx 4)
  have hr6 := hU.at hr6 (hnx 5)
  have hr7 := hU.at hr7 (hnx 6)
  have hr8 := hU.at hr8 (hnx 7)
  have hr9 := hU.at hr9 (hnx 8)
  have hr10 := hU.at hr10 (hnx 9)
  have hr11 := hU.at hr11 (hnx 10)
  have hr12 := hU.at hr12 (hnx 11)
  have hr13 := hU.at hr13 (hnx 12)
  have hr14 := hU.at hr14 (hnx 13)
  have hr15 := hU.at hr15 (hnx 14)
  have hr16 := hU.at hr16 (hnx 15)
  have hr17 := hU.at hr17 (hnx 16)
  have hr18 := hU.at hr18 (hnx 17)
  have hr19 := hU.at hr19 (hnx 18)
  have hr20 := hU.at hr20 (hnx 19)
  have hr21 := hU.at hr21 (hnx 20)
  have hr22 := hU.at hr22 (hnx 21)
  have hs22 : Hb22.size = H.size + 22 := by rw [hU.1, hn22, hs21]
  clear hU ho
  refine kend_v S hr hlocks hS ⟨fun k hk => ?_, fun k k' hk hk' he => ?_⟩ dX5_init_180
  · match k, hk with
    | 0, _ => exact ⟨ha, Or.inl rfl⟩
    | 1, _ => exact ⟨kI_ext (fun j _ => rfl) hr1, Or.inr (Nat.le_add_right _ _)⟩
    | 2, _ => exact ⟨kZ_ext (fun j _ => rfl) hr2, Or.inr (Nat.le_add_right _ _)⟩
    | 3, _ => exact ⟨kZ_ext (fun j _ => rfl) hr3, Or.inr (Nat.le_add_right _ _)⟩
    | 4, _ => exact ⟨kI_ext (fun j _ => rfl) hr4, Or.inr (Nat.le_add_right _ _)⟩
    | 5, _ => exact ⟨kI_ext (fun j _ => rfl) hr5, Or.inr (Nat.le_add_right _ _)⟩
    | 6, _ => exact ⟨kI_ext (fun j _ => rfl) hr6, Or.inr (Nat.le_add_right _ _)⟩
    | 7, _ => exact ⟨kI_ext (fun j _ => rfl) hr7, Or.inr (Nat.le_add_right _ _)⟩
    | 8, _ => exact ⟨kI_ext (fun j _ => rfl) hr8, Or.inr (Nat.le_add_right _ _)⟩
    | 9, _ => exact ⟨kI_ext (fun j _ => rfl) hr9, Or.inr (Nat.le_add_right _ _)⟩
    | 10, _ => exact ⟨kI_ext (fun j _ => rfl) hr10, Or.inr (Nat.le_add_right _ _)⟩
    | 11, _ => exact ⟨kI_ext (fun j _ => rfl) hr11, Or.inr (Nat.le_add_right _ _)⟩
    | 12, _ => exact ⟨kI_ext (fun j _ => rfl) hr12, Or.inr (Nat.le_add_right _ _)⟩
    | 13, _ => exact ⟨kI_ext (fun j _ => rfl) hr13, Or.inr (Nat.le_add_right _ _)⟩
    | 14, _ => exact ⟨kZ_ext (fun j _ => rfl) hr14, Or.inr (Nat.le_add_right _ _)⟩
    | 15, _ => exact ⟨kI_ext (fun j _ => rfl) hr15, Or.inr (Nat.le_add_right _ _)⟩
    | 16, _ => exact ⟨kI_ext (fun j _ => rfl) hr16, Or.inr (Nat.le_add_right _ _)⟩
    | 17, _ => exact ⟨kI_ext (fun j _ => rfl) hr17, Or.inr (Nat.le_add_right _ _)⟩
    | 18, _ => exact ⟨kI_ext (fun j _ => rfl) hr18, Or.inr (Nat.le_add_right _ _)⟩
    | 19, _ => exact ⟨kI_ext (fun j _ => rfl) hr19, Or.inr (Nat.le_add_right _ _)⟩
    | 20, _ => exact ⟨kI_ext (fun j _ => rfl) hr20, Or.inr (Nat.le_add_right _ _)⟩
    | 21, _ => exact ⟨kI_ext (fun j _ => rfl) hr21, Or.inr (Nat.le_add_right _ _)⟩
    | 22, _ => exact ⟨kI_ext (fun j _ => rfl) hr22, Or.inr (Nat.le_add_right _ _)⟩
    | k + 23, hk => exact absurd hk (by omega)
  · exact kbd_inj hxl he
