/-! ===== a new mesh, the alarms, the minute ===== -/
def k00 : kS := fun _ _ => 0
def kad0 (ε : kEnv) (x : Nat) (q : Nat → Nat) : Nat → Nat → Nat := fun k j => if k = 0 then x else if k = 1 then q j else kz ε
theorem kW.zero {ε : kEnv} {A : Nat → Prop} {x : Nat} {q : Nat → Nat} {H : Heap} (h0 : kat ε x (.inr (5, [.ref (q 0), .ref (q 1), .ref (q 2), .ref (q 3), .int 0, .int 0, .int 0])) H) (hx : A x) (h1 : ∀ i, i < 4 → kat ε (q i) (.inr (0, [.int 0, .ref (kz ε), .int 0])) H ∧ A (q i) ∧ q i ≠ x) (hq : ∀ i j, i < 4 → j < 4 → q i = q j → i = j) : kW ε A (kad0 ε x q) k00 H := by
  have nolv : ∀ k i, kLv k00 k i → (k = 0 ∧ i = 0) ∨ (k = 1 ∧ i < 4) := by
    intro k i h
    match k, h with
    | 0, h => exact Or.inl ⟨rfl, h⟩
    | 1, h => exact Or.inr ⟨rfl, h⟩
    | 2, h => exact absurd h.2 (Nat.lt_irrefl 0)
    | 3, h => exact absurd h (Nat.not_lt_zero _)
    | 4, h => exact absurd h (Nat.not_lt_zero _)
    | 5, h => exact absurd h (Nat.not_lt_zero _)
    | 6, h => exact absurd h (Nat.not_lt_zero _)
    | 7, h => exact absurd h (Nat.not_lt_zero _)
    | 8, h => exact absurd h (Nat.not_lt_zero _)
    | 9, h => exact absurd h (Nat.not_lt_zero _)
  refine ⟨fun k i h => ?_, fun k i k' i' h h' he => ?_, fun i _ _ => rfl⟩
  · rcases nolv k i h with ⟨rfl, rfl⟩ | ⟨rfl, hi⟩
    · exact ⟨h0, hx⟩
    · exact ⟨(h1 i hi).1, (h1 i hi).2.1⟩
  · rcases nolv k i h with ⟨rfl, rfl⟩ | ⟨rfl, hi⟩ <;> rcases nolv k' i' h' with ⟨rfl, rfl⟩ | ⟨rfl, hi'⟩
    · exact ⟨rfl, rfl⟩
    · exact absurd he.symm (h1 i' hi').2.2
    · exact absurd he (h1 i hi).2.2
    · exact ⟨rfl, hq i i' hi hi' he⟩
theorem kin_X4_init_X4 : ∀ w ∈ wsX40, w ∈ wsX4_init := by decide +kernel
theorem kin_X4_init_Jx4a65c : ∀ w ∈ wsJx4a65c0, w ∈ wsX4_init := by decide +kernel
set_option maxHeartbeats 4000000 in
set_option maxRecDepth 100000 in
theorem ci_mesh (ε : kEnv) (l : Launch) {H : Heap} {x : Nat} (hbx : ε.2.2.1 ≤ x) (hbz : ε.2.2.1 ≤ H.size) (ha : kat ε x (.inr (5, [.null, .null, .null, .null, .int 0, .int 0, .int 0])) H) : kMv ε l yX4_init wsX4_init ({ frames := 4, cells := 4, slots := 12, locals := 100 }) [.ref x] H (kA1 x H.size) (4) (12) (fun H' => ∃ q : Nat → Nat, kW ε (kA1 x H.size) (kad0 ε x q) k00 H') := by
  refine kof (cc := cX4_init) (maxL := 1) (ret := none) (by decide) rfl (Nat.le_of_ble_eq_true rfl) ?_
  intro p e s m below meth c ls S hr hlocks hin hH hE hl
  have S : CallFix p m c cX4_init 1 s _ wsX4_init RX4 := S
  have hx := S.1
  have hb := S.2.1
  have hown : s.vm.findClass RX4 = some m.cls := S.2.2.2.1
  have hts := S.2.2.2.2
  have hK := hE.1
  have hS : va_S (kA1 x H.size) s.heap H [] := by rw [hH]; exact va_S.rf
  have hl : lv_has ls 1 [(0, .ref x)] := hl
  have hAb : ∀ q, kA1 x H.size q → kHi ε q := fun q h => h.elim (fun h => h ▸ hbx) (fun h => Nat.le_trans hbz h)
  have hxl := va_at.lt ha
  refine lv_aload_n hx hb dX4_init_0 rfl (lv_at hl 0 rfl) ?_
  refine kr_oinit hx hb hown (hts (.methodLink RX4 1 Lib.objectInit) (by decide +kernel)) (hts (.instanceMethod Lib.objectInit) (by decide +kernel)) (hts (.code Lib.objectInit ⟨#[0xb1]⟩ 1 none) (by decide +kernel)) (hl.1.trans S.2.2.1.symm) dX4_init_1 (Nat.le_of_ble_eq_true rfl) (Nat.le_of_ble_eq_true rfl) ?_
  refine lv_aload_n hx hb dX4_init_4 rfl (lv_at hl 0 rfl) ?_
  refine kr_new (T := TJx4a65c) (N := 3) (ci := 0) (fs := [.int 0, .null, .int 0]) hx hb hts hown hK hS rfl kin_X4_init_Jx4a65c tyJx4a65c tyJx4a65c_ok (by decide +kernel) (by decide +kernel) (by decide +kernel) (dvJx4a65c) (Nat.le_of_ble_eq_true rfl) (Nat.le_of_ble_eq_true rfl) dX4_init_5 (fun Ha0 hN hl0 hS => ?_)
  have hn0 := hN.1
  have ha := hN.at ha
  clear hN
  refine lv_dup hx hb dX4_init_8 rfl ?_
  refine kgo_v (kc_I (As := []) (rest := [.ref H.size, .ref x]) S hE hS hAb (ci_list ε l (by omega) hl0) (cwI 0 hts gX4_init_Jx4a65c_init_da8c8 rfl rfl rfl (hts (.initialized RJx4a65c) (by decide +kernel)) (hts (.methodLink RX4 9 yJx4a65c_init_da8c8) (by decide +kernel)) (hts (.instanceMethod yJx4a65c_init_da8c8) (by decide +kernel)) rfl (by decide +kernel) ⟨Nat.le_of_ble_eq_true rfl, Nat.le_of_ble_eq_true rfl⟩) rfl hl.1 rfl (Nat.le_of_ble_eq_true rfl) dX4_init_9 ⟨Nat.le_of_ble_eq_true rfl, Nat.le_of_ble_eq_true rfl⟩) hS (fun q h => Or.inr (by omega)) (fun Hb0 locs hc0 hz0 hq hS => ?_)
  have ha := va_at.kept ha (hq x (va_at.lt ha) (by omega))
  have hl0 := hc0
  clear hc0 hq
  refine kr_putF (T := TX4) (N := 7) (v := .ref H.size) (ty := .object "java/util/ArrayList") hx hb hts hown hK hS ha (Or.inl rfl) rfl kin_X4_init_X4 tyX4 tyX4_ok nmX4 0 (by decide) (by decide +kernel) rfl hin rfl (by decide +kernel) rfl rfl (Nat.le_of_ble_eq_true rfl) dX4_init_12 (fun Hc0 locs hU ho hS => ?_)
  have ha : kat ε x (.inr (5, [.ref H.size, .null, .null, .null, .int 0, .int 0, .int 0])) Hc0 := ho
  have hl0 := hU.at hl0 (by omega)
  have huHc0 := hU.1
  clear ho hU
  refine lv_aload_n hx hb dX4_init_15 rfl (lv_at hl 0 rfl) ?_
  refine kr_new (T := TJx4a65c) (N := 3) (ci := 0) (fs := [.int 0, .null, .int 0]) hx hb hts hown hK hS rfl kin_X4_init_Jx4a65c tyJx4a65c tyJx4a65c_ok (by decide +kernel) (by decide +kernel) (by decide +kernel) (dvJx4a65c) (Nat.le_of_ble_eq_true rfl) (Nat.le_of_ble_eq_true rfl) dX4_init_16 (fun Ha1 hN hl1 hS => ?_)
  have hn1 := hN.1
  have ha := hN.at ha
  have hl0 := hN.at hl0
  clear hN
  refine lv_dup hx hb dX4_init_19 rfl ?_
  refine kgo_v (kc_I (As := []) (rest := [.ref Hc0.size, .ref x]) S hE hS hAb (ci_list ε l (by omega) hl1) (cwI 0 hts gX4_init_Jx4a65c_init_da8c8 rfl rfl rfl (hts (.initialized RJx4a65c) (by decide +kernel)) (hts (.methodLink RX4 9 yJx4a65c_init_da8c8) (by decide +kernel)) (hts (.instanceMethod yJx4a65c_init_da8c8) (by decide +kernel)) rfl (by decide +kernel) ⟨Nat.le_of_ble_eq_true rfl, Nat.le_of_ble_eq_true rfl⟩) rfl hl.1 rfl (Nat.le_of_ble_eq_true rfl) dX4_init_20 ⟨Nat.le_of_ble_eq_true rfl, Nat.le_of_ble_eq_true rfl⟩) hS (fun q h => Or.inr (by omega)) (fun Hb1 locs hc1 hz1 hq hS => ?_)
  have ha := va_at.kept ha (hq x (va_at.lt ha) (by omega))
  have hl0 := va_at.kept hl0 (hq _ (va_at.lt hl0) (by omega))
  have hl1 := hc1
  clear hc1 hq
  refine kr_putF (T := TX4) (N := 7) (v := .ref Hc0.size) (ty := .object "java/util/ArrayList") hx hb hts hown hK hS ha (Or.inl rfl) rfl kin_X4_init_X4 tyX4 tyX4_ok nmX4 1 (by decide) (by decide +kernel) rfl hin rfl (by decide +kernel) rfl rfl (Nat.le_of_ble_eq_true rfl) dX4_init_23 (fun Hc1 locs hU ho hS => ?_)
  have ha : kat ε x (.inr (5, [.ref H.size, .ref Hc0.size, .null, .null, .int 0, .int 0, .int 0])) Hc1 := ho
  have hl0 := hU.at hl0 (by omega)
  have hl1 := hU.at hl1 (by omega)
  have huHc1 := hU.1
  clear ho hU
  refine lv_aload_n hx hb dX4_init_26 rfl (lv_at hl 0 rfl) ?_
  refine kr_new (T := TJx4a65c) (N := 3) (ci := 0) (fs := [.int 0, .null, .int 0]) hx hb hts hown hK hS rfl kin_X4_init_Jx4a65c tyJx4a65c tyJx4a65c_ok (by decide +kernel) (by decide +kernel) (by decide +kernel) (dvJx4a65c) (Nat.le_of_ble_eq_true rfl) (Nat.le_of_ble_eq_true rfl) dX4_init_27 (fun Ha2 hN hl2 hS => ?_)
  have hn2 := hN.1
  have ha := hN.at ha
  have hl0 := hN.at hl0
  have hl1 := hN.at hl1
  clear hN
  refine lv_dup hx hb dX4_init_30 rfl ?_
  refine kgo_v (kc_I (As := []) (rest := [.ref Hc1.size, .ref x]) S hE hS hAb (ci_list ε l (by omega) hl2) (cwI 0 hts gX4_init_Jx4a65c_init_da8c8 rfl rfl rfl (hts (.initialized RJx4a65c) (by decide +kernel)) (hts (.methodLink RX4 9 yJx4a65c_init_da8c8) (by decide +kernel)) (hts (.instanceMethod yJx4a65c_init_da8c8) (by decide +kernel)) rfl (by decide +kernel) ⟨Nat.le_of_ble_eq_true rfl, Nat.le_of_ble_eq_true rfl⟩) rfl hl.1 rfl (Nat.le_of_ble_eq_true rfl) dX4_init_31 ⟨Nat.le_of_ble_eq_true rfl, Nat.le_of_ble_eq_true rfl⟩) hS (fun q h => Or.inr (by omega)) (fun Hb2 locs hc2 hz2 hq hS => ?_)
  have ha := va_at.kept ha (hq x (va_at.lt ha) (by omega))
  have hl0 := va_at.kept hl0 (hq _ (va_at.lt hl0) (by omega))
  have hl1 := va_at.kept hl1 (hq _ (va_at.lt hl1) (by omega))
  have hl2 := hc2
  clear hc2 hq
  refine kr_putF (T := TX4) (N := 7) (v := .ref Hc1.size) (ty := .object "java/util/ArrayList") hx hb hts hown hK hS ha (Or.inl rfl) rfl kin_X4_init_X4 tyX4 tyX4_ok nmX4 2 (by decide) (by decide +kernel) rfl hin rfl (by decide +kernel) rfl rfl (Nat.le_of_ble_eq_true rfl) dX4_init_34 (fun Hc2 locs hU ho hS => ?_)
  have ha : kat ε x (.inr (5, [.ref H.size, .ref Hc0.size, .ref Hc1.size, .null, .int 0, .int 0, .int 0])) Hc2 := ho
  have hl0 := hU.at hl0 (by omega)
  have hl1 := hU.at hl1 (by omega)
  have hl2 := hU.at hl2 (by omega)
  have huHc2 := hU.1
  clear ho hU
  refine lv_aload_n hx hb dX4_init_37 rfl (lv_at hl 0 rfl) ?_
  refine kr_new (T := TJx4a65c) (N := 3) (ci := 0) (fs := [.int 0, .null, .int 0]) hx hb hts hown hK hS rfl kin_X4_init_Jx4a65c tyJx4a65c tyJx4a65c_ok (by decide +kernel) (by decide +kernel) (by decide +kernel) (dvJx4a65c) (Nat.le_of_ble_eq_true rfl) (Nat.le_of_ble_eq_true rfl) dX4_init_38 (fun Ha3 hN hl3 hS => ?_)
  have hn3 := hN.1
  have ha := hN.at ha
  have hl0 := hN.at hl0
  have hl1 := hN.at hl1
  have hl2 := hN.at hl2
  clear hN
  refine lv_dup hx hb dX4_init_41 rfl ?_
  refine kgo_v (kc_I (As := []) (rest := [.ref Hc2.size, .ref x]) S hE hS hAb (ci_list ε l (by omega) hl3) (cwI 0 hts gX4_init_Jx4a65c_init_da8c8 rfl rfl rfl (hts (.initialized RJx4a65c) (by decide +kernel)) (hts (.methodLink RX4 9 yJx4a65c_init_da8c8) (by decide +kernel)) (hts (.instanceMethod yJx4a65c_init_da8c8) (by decide +kernel)) rfl (by decide +kernel) ⟨Nat.le_of_ble_eq_true rfl, Nat.le_of_ble_eq_true rfl⟩) rfl hl.1 rfl (Nat.le_of_ble_eq_true rfl) dX4_init_42 ⟨Nat.le_of_ble_eq_true rfl, Nat.le_of_ble_eq_true rfl⟩) hS (fun q h => Or.inr (by omega)) (fun Hb3 locs hc3 hz3 hq hS => ?_)
  have ha := va_at.kept ha (hq x (va_at.lt ha) (by omega))
  have hl0 := va_at.kept hl0 (hq _ (va_at.lt hl0) (by omega))
  have hl1 := va_at.kept hl1 (hq _ (va_at.lt hl1) (by omega))
  have hl2 := va_at.kept hl2 (hq _ (va_at.lt hl2) (by omega))
  have hl3 := hc3
  clear hc3 hq
  refine kr_putF (T := TX4) (N := 7) (v := .ref Hc2.size) (ty := .object "java/util/ArrayList") hx hb hts hown hK hS ha (Or.inl rfl) rfl kin_X4_init_X4 tyX4 tyX4_ok nmX4 3 (by decide) (by decide +kernel) rfl hin rfl (by decide +kernel) rfl rfl (Nat.le_of_ble_eq_true rfl) dX4_init_45 (fun Hc3 locs hU ho hS => ?_)
  have ha : kat ε x (.inr (5, [.ref H.size, .ref Hc0.size, .ref Hc1.size, .ref Hc2.size, .int 0, .int 0, .int 0])) Hc3 := ho
  have hl0 := hU.at hl0 (by omega)
  have hl1 := hU.at hl1 (by omega)
  have hl2 := hU.at hl2 (by omega)
  have hl3 := hU.at hl3 (by omega)
  have huHc3 := hU.1
  clear ho hU
  refine lv_aload_n hx hb dX4_init_48 rfl (lv_at hl 0 rfl) ?_
  refine lv_iconst (v := 0) hx hb dX4_init_49 (by decide) ?_
  refine kr_put (T := TX4) (N := 7) (v := .int 0) (ty := .int) hx hb hts hown hK hS ha (Or.inl rfl) rfl kin_X4_init_X4 tyX4 tyX4_ok nmX4 4 (by decide) "Probeweb" (hts (.fieldLink RX4 25 "Probeweb" "cutRegions" "I") (by decide +kernel)) (fun _ h => h) rfl (by decide +kernel) rfl rfl (Nat.le_of_ble_eq_true rfl) dX4_init_50 (fun Hd0 locs hU ho hS => ?_)
  have ha : kat ε x (.inr (5, [.ref H.size, .ref Hc0.size, .ref Hc1.size, .ref Hc2.size, .int 0, .int 0, .int 0])) Hd0 := ho
  have hl0 := hU.at hl0 (by omega)
  have hl1 := hU.at hl1 (by omega)
  have hl2 := hU.at hl2 (by omega)
  have hl3 := hU.at hl3 (by omega)
  have huHd0 := hU.1
  clear ho hU
  refine lv_aload_n hx hb dX4_init_53 rfl (lv_at hl 0 rfl) ?_
  refine lv_iconst (v := 0) hx hb dX4_init_54 (by decide) ?_
  refine kr_put (T := TX4) (N := 7) (v := .int 0) (ty := .int) hx hb hts hown hK hS ha (Or.inl rfl) rfl kin_X4_init_X4 tyX4 tyX4_ok nmX4 5 (by decide) "Probeweb" (hts (.fieldLink RX4 29 "Probeweb" "badRegions" "I") (by decide +kernel)) (fun _ h => h) rfl (by decide +kernel) rfl rfl (Nat.le_of_ble_eq_true rfl) dX4_init_55 (fun Hd1 locs hU ho hS => ?_)
  have ha : kat ε x (.inr (5, [.ref H.size, .ref Hc0.size, .ref Hc1.size, .ref Hc2.size, .int 0, .int 0, .int 0])) Hd1 := ho
  have hl0 := hU.at hl0 (by omega)
  have hl1 := hU.at hl1 (by omega)
  have hl2 := hU.at hl2 (by omega)
  have hl3 := hU.at hl3 (by omega)
  have huHd1 := hU.1
  clear ho hU
  refine lv_aload_n hx hb dX4_init_58 rfl (lv_at hl 0 rfl) ?_
  refine lv_iconst (v := 0) hx hb dX4_init_59 (by decide) ?_
  refine kr_put (T := TX4) (N := 7) (v := .int 0) (ty := .int) hx hb hts hown hK hS ha (Or.inl rfl) rfl kin_X4_init_X4 tyX4 tyX4_ok nmX4 6 (by decide) "Probeweb" (hts (.fieldLink RX4 32 "Probeweb" "minute" "I") (by decide +kernel)) (fun _ h => h) rfl (by decide +kernel) rfl rfl (Nat.le_of_ble_eq_true rfl) dX4_init_60 (fun Hd2 locs hU ho hS => ?_)
  have ha : kat ε x (.inr (5, [.ref H.size, .ref Hc0.size, .ref Hc1.size, .ref Hc2.size, .int 0, .int 0, .int 0])) Hd2 := ho
  have hl0 := hU.at hl0 (by omega)
  have hl1 := hU.at hl1 (by omega)
  have hl2 := hU.at hl2 (by omega)
  have hl3 := hU.at hl3 (by omega)
  have huHd2 := hU.1
  clear ho hU
  refine kend_v S hr hlocks hS ⟨fun i => match i with | 0 => H.size | 1 => Hc0.size | 2 => Hc1.size | _ => Hc2.size, kW.zero ha (Or.inl rfl) (fun i hi => ?_) (fun i j hi hj he => ?_)⟩ dX4_init_63
  · match i, hi with
    | 0, _ => exact ⟨hl0, Or.inr (by show H.size ≤ H.size; omega), by show H.size ≠ x; omega⟩
    | 1, _ => exact ⟨hl1, Or.inr (by show H.size ≤ Hc0.size; omega), by show Hc0.size ≠ x; omega⟩
    | 2, _ => exact ⟨hl2, Or.inr (by show H.size ≤ Hc1.size; omega), by show Hc1.size ≠ x; omega⟩
    | 3, _ => exact ⟨hl3, Or.inr (by show H.size ≤ Hc2.size; omega), by show Hc2.size ≠ x; omega⟩
  · match i, hi, j, hj, he with
    | 0, _, 0, _, _ => rfl
    | 0, _, 1, _, he => exact absurd (show H.size = Hc0.size from he) (by omega)
    | 0, _, 2, _, he => exact absurd (show H.size = Hc1.size from he) (by omega)
    | 0, _, 3, _, he => exact absurd (show H.size = Hc2.size from he) (by omega)
    | 1, _, 0, _, he => exact absurd (show Hc0.size = H.size from he) (by omega)
    | 1, _, 1, _, _ => rfl
    | 1, _, 2, _, he => exact absurd (show Hc0.size = Hc1.size from he) (by omega)
    | 1, _, 3, _, he => exact absurd (show Hc0.size = Hc2.size from he) (by omega)
    | 2, _, 0, _, he => exact absurd (show Hc1.size = H.size from he) (by omega)
    | 2, _, 1, _, he => exact absurd (show Hc1.size = Hc0.size from he) (by omega)
    | 2, _, 2, _, _ => rfl
    | 2, _, 3, _, he => exact absurd (show Hc1.size = Hc2.size from he) (by omega)
    | 3, _, 0, _, he => exact absurd (show Hc2.size = H.size from he) (by omega)
    | 3, _, 1, _, he => exact absurd (show Hc2.size = Hc0.size from he) (by omega)
    | 3, _, 2, _, he => exact absurd (show Hc2.size = Hc1.size from he) (by omega)
    | 3, _, 3, _, _ => rfl
