set_option maxHeartbeats 4000000 in
set_option maxRecDepth 100000 in
theorem cp_addRegion0 (ε : kEnv) (l : Launch) {A : Nat → Prop} {ad : Nat → Nat → Nat} {σ : kS} {H : Heap} (hAb : ∀ q, A q → kHi ε q) (hw : kW ε A ad σ H) (hB : kB σ) (hn6 : σ 1 0 < 6) (hz0 : kZ0 σ) (hA2 : ∀ q, H.size ≤ q → A q) : kMi ε l yX4_addRegion wsX4_addRegion ({ frames := 7, cells := 1 + kgc (σ 1 0), slots := 4 + kgs (σ 1 0), locals := 220 }) [.ref (ad 0 0), .int ((-1))] H A (1 + kgc (σ 1 0)) (4 + kgs (σ 1 0)) (fun v H' => v = nI (σ 1 0) ∧ ∃ ad', ad' 0 0 = ad 0 0 ∧ kW ε A ad' (kAddR σ (0)) H') := by
  refine kof (cc := cX4_addRegion) (maxL := 4) (ret := (some .int)) (by decide) rfl (Nat.le_of_ble_eq_true rfl) ?_
  intro p e s m below meth c ls S hr hlocks hin hH hE hl
  have S : CallFix p m c cX4_addRegion 4 s _ wsX4_addRegion RX4 := S
  have hx := S.1
  have hb := S.2.1
  have hown : s.vm.findClass RX4 = some m.cls := S.2.2.2.1
  have hts := S.2.2.2.2
  have hK := hE.1
  have hS : va_S A s.heap H [] := by rw [hH]; exact va_S.rf
  have hnR := hB.nR
  have hnC := hB.nC
  have hnW := hB.nW
  have hnA := hB.nA
  have hmn := hB.min
  have hl : lv_has ls 4 [(0, .ref (ad 0 0)), (1, .int ((-1)))] := hl
  have hbz : ε.2.2.1 ≤ H.size := hAb _ (hA2 _ (Nat.le_refl _))
  have hlt : ∀ k j, kLv σ k j → ad k j < H.size := fun k j h => va_at.lt (hw.1 k j h).1
  refine lv_iload_n hx hb dX4_addRegion_0 rfl (lv_at hl 1 rfl) ?_
  refine lv_iconst (v := -1) hx hb dX4_addRegion_1 (by decide) ?_
  refine lv_icmp_eq (tgt := 10) hx hb dX4_addRegion_2 (by decide) (fun _ => ?_) (fun hc => absurd (rfl) hc)
  refine lv_aload_n hx hb dX4_addRegion_10 rfl (lv_at hl 0 rfl) ?_
  refine kr_get (T := TX4) (N := 7) hx hb hts hown hK (hw.lv 0 0 (rfl : (0 : Nat) = 0)) rfl kin_X4_addRegion_X4 0 (by decide) (by decide +kernel) rfl dX4_addRegion_11 ?_
  refine kgo_pi (v := nI (σ 1 0)) (kc_V (As := []) (rest := []) S hE hS hAb (kw_size l hw 0 (by decide)) (cwV 0 hts gX4_addRegion_Jx4a65c_size_8abf5 rfl rfl rfl (by decide +kernel) ⟨Nat.le_of_ble_eq_true rfl, Nat.le_of_ble_eq_true rfl⟩) (hw.lv 1 0 (by decide : (0 : Nat) < 4)) rfl rfl hl.1 rfl (Nat.le_of_ble_eq_true rfl) dX4_addRegion_14 ⟨Nat.zero_le _, Nat.zero_le _⟩) hS (fun locs hS => ?_)
  refine lv_bipush (v := 6) hx hb dX4_addRegion_17 (by decide) ?_
  refine lv_icmp_lt (tgt := 32) hx hb dX4_addRegion_19 (by decide) (fun _ => ?_) (fun hc => absurd (nI_lt (a := σ 1 0) (b := 6) hn6 (by decide)) hc)
  refine lv_aload_n hx hb dX4_addRegion_32 rfl (lv_at hl 0 rfl) ?_
  refine kr_get (T := TX4) (N := 7) hx hb hts hown hK (hw.lv 0 0 (rfl : (0 : Nat) = 0)) rfl kin_X4_addRegion_X4 0 (by decide) (by decide +kernel) rfl dX4_addRegion_33 ?_
  refine kgo_pi (v := nI (σ 1 0)) (kc_V (As := []) (rest := []) S hE hS hAb (kw_size l hw 0 (by decide)) (cwV 0 hts gX4_addRegion_Jx4a65c_size_8abf5 rfl rfl rfl (by decide +kernel) ⟨Nat.le_of_ble_eq_true rfl, Nat.le_of_ble_eq_true rfl⟩) (hw.lv 1 0 (by decide : (0 : Nat) < 4)) rfl rfl hl.1 rfl (Nat.le_of_ble_eq_true rfl) dX4_addRegion_36 ⟨Nat.zero_le _, Nat.zero_le _⟩) hS (fun locs hS => ?_)
  refine lv_istore_n (lv' := [(2, .int (nI (σ 1 0))), (0, .ref (ad 0 0)), (1, .int ((-1)))]) hx hb dX4_addRegion_39 rfl hl (by decide) rfl (fun ls hl => ?_)
  refine lv_iload_n hx hb dX4_addRegion_40 rfl (lv_at hl 2 rfl) ?_
  refine lv_iconst (v := -1) hx hb dX4_addRegion_41 (by decide) ?_
  refine lv_icmp_ne (tgt := 49) hx hb dX4_addRegion_42 (by decide) (fun hc => absurd rfl hc) (fun _ => ?_)
  refine lv_iconst (v := 0) hx hb dX4_addRegion_45 (by decide) ?_
  refine lv_goto (tgt := 63) hx hb dX4_addRegion_46 (by decide) ?_
  refine kr_top (y := nI 0) (rfl) ?_
  refine lv_istore_n (lv' := [(3, .int (nI 0)), (2, .int (nI (σ 1 0))), (0, .ref (ad 0 0)), (1, .int ((-1)))]) hx hb dX4_addRegion_63 rfl hl (by decide) rfl (fun ls hl => ?_)
  refine lv_aload_n hx hb dX4_addRegion_64 rfl (lv_at hl 2 rfl) ?_
  refine kr_get (T := TX4) (N := 7) hx hb hts hown hK (hw.lv 0 0 (rfl : (0 : Nat) = 0)) rfl kin_X4_addRegion_X4 0 (by decide) (by decide +kernel) rfl dX4_addRegion_65 ?_
  refine kr_new (T := TX2) (N := 4) (ci := 3) (fs := [.int 0, .int 0, .int 0, .int 0]) hx hb hts hown hK hS rfl kin_X4_addRegion_X2 tyX2 tyX2_ok (by decide +kernel) (by decide +kernel) (by decide +kernel) (dvX2) (by show 0 + 1 ≤ 1 + kgc (σ 1 0); omega) (by show 0 + 4 ≤ 4 + kgs (σ 1 0); omega) dX4_addRegion_68 (fun H1 hN hnew hS => ?_)
  have hw := hw.new hN
  have hz1 := hN.1
  clear hN
  refine lv_dup hx hb dX4_addRegion_71 rfl ?_
  refine lv_iload_n hx hb dX4_addRegion_72 rfl (lv_at hl 1 rfl) ?_
  refine lv_iload_n hx hb dX4_addRegion_73 rfl (lv_at hl 0 rfl) ?_
  refine kgo_v (kc_I (As := [.int (nI (σ 1 0)), .int (nI 0)]) (rest := [.ref H.size, .ref (ad 1 0)]) S hE hS hAb (ci_region ε l hbz (t := 0) (r := σ 1 0) (by decide) hn6 hnew) (cwI 2 hts gX4_addRegion_X2_init rfl rfl rfl (hts (.initialized RX2) (by decide +kernel)) (hts (.methodLink RX4 59 yX2_init) (by decide +kernel)) (hts (.instanceMethod yX2_init) (by decide +kernel)) rfl (by decide +kernel) ⟨Nat.le_of_ble_eq_true rfl, Nat.le_of_ble_eq_true rfl⟩) rfl hl.1 rfl (Nat.le_of_ble_eq_true rfl) dX4_addRegion_74 ⟨by show 0 + 1 + 0 ≤ 1 + kgc (σ 1 0); omega, by show 0 + 4 + 0 ≤ 4 + kgs (σ 1 0); omega⟩) hS (fun q h => hA2 q (Nat.le_of_eq h.symm)) (fun H2 locs hal hz hq hS => ?_)
  have hw := hw.keep (fun k j h => hq _ (by have := hlt k j h; omega) (by have := hlt k j h; omega))
  clear hq
  have hadd := kw_add (i := 0) l hAb hw (by decide) (by show σ 1 0 ≤ 1000000; omega) (by omega) (x := H.size) ⟨3, _, _, hal, rfl, by decide⟩ (by have := hlt 1 0 (by decide : (0 : Nat) < 4); omega)
  have hA3 := hw.a2 (i := 0) (by decide) (fun q h => hA2 q (by omega))
  refine kgo_i (kc_V (As := [.ref H.size]) (rest := []) S hE hS hAb (hadd) (cwV 1 hts gX4_addRegion_Jx4a65c_add_9ea2d rfl rfl rfl (by decide +kernel) ⟨Nat.le_of_ble_eq_true rfl, Nat.le_of_ble_eq_true rfl⟩) (hw.lv 1 0 (by decide : (0 : Nat) < 4)) rfl rfl hl.1 rfl (Nat.le_of_ble_eq_true rfl) dX4_addRegion_77 ⟨by show 0 + 1 + 0 + kgc (σ 1 0) ≤ 1 + kgc (σ 1 0); omega, by show 0 + 4 + 0 + kgs (σ 1 0) ≤ 4 + kgs (σ 1 0); omega⟩) hS hA3 (fun r9 H4 locs hp hz4 hq hS => ?_)
  refine kr_room (c1 := 1 + kgc (σ 1 0)) (s1 := 4 + kgs (σ 1 0)) (by show 0 + 1 + 0 + kgc (σ 1 0) = _; omega) (by show 0 + 4 + 0 + kgs (σ 1 0) = _; omega) ?_
  have hc9 : ∀ i' : Nat, i' < 4 → i' ≠ 0 → (kAddR σ (0)) (i' + 1) 0 = σ (i' + 1) 0 := by
    intro i' hi' hne
    match i', hi', hne with
    | 0, _, h => exact absurd rfl h
    | 1, _, _ => simp [kAddR, ku]
    | 2, _, _ => simp [kAddR, ku]
    | 3, _, _ => simp [kAddR, ku]
  have hf : kW ε A (kadd ad 0 (σ 1 0) (fun _ => H.size) (if σ 1 0 < kcap (σ 1 0) then ad 2 0 else H2.size)) (kAddR σ (0)) H4 := by
    refine kW.grow (i := 0) (b := fun _ => H.size) hw (by decide) rfl (fun h => absurd h (by decide)) (by simp [kAddR, ku]) hc9 ?_ ?_ ?_ ?_ hp.2 hq (fun q h => hA2 q (by omega))
    · intro k j hl h1 h2
      match k, hl, h1, h2 with
      | 0, _, _, _ => simp [kAg, kAddR, ku]
      | 1, hl, h1, _ => exact hc9 j hl (fun h => h1 ⟨rfl, h⟩)
      | 2, hl, _, h2 => exact hc9 j hl.1 (fun h => h2 ⟨rfl, h⟩)
      | 3, hl, _, _ =>
        have hj : j ≠ σ 1 0 := kLv_el9 (i := 0) (k := 3) (by decide) rfl hl
        simp [kAg, kAddR, ku, hj]
      | 4, _, _, _ => simp [kAg, kAddR, ku]
      | 5, _, _, _ => simp [kAg, kAddR, ku]
      | 6, _, _, _ => simp [kAg, kAddR, ku]
      | 7, _, _, _ => simp [kAg, kAddR, ku]
      | 8, _, _, _ => simp [kAg, kAddR, ku]
      | 9, _, _, _ => simp [kAg, kAddR, ku]
    · intro k hk
      have h9k := kow_0 hk
      subst h9k
      refine ⟨?_, hA2 _ (Nat.le_refl _)⟩
      have z12 := (hz0.1 _ (Nat.le_refl _)).1
      have z13 := (hz0.1 _ (Nat.le_refl _)).2
      have e1 : kAddR σ (0) 11 (σ 1 0) = kwr (0) (σ 1 0) true := by simp [kAddR, ku]
      have e2 : kAddR σ (0) 12 (σ 1 0) = 0 := (show _ = σ 12 (σ 1 0) by simp [kAddR, ku]).trans z12
      have e3 : kAddR σ (0) 13 (σ 1 0) = 0 := (show _ = σ 13 (σ 1 0) by simp [kAddR, ku]).trans z13
      show kat ε H.size (.inr (3, [.int (nI (σ 1 0)), .int (nI (kAddR σ (0) 11 (σ 1 0))), .int (nI (kAddR σ (0) 12 (σ 1 0))), .int (nI (kAddR σ (0) 13 (σ 1 0)))])) H2
      rw [e1, e2, e3]
      exact hal
    · intro k hk k' j' hl' he
      have := hlt k' j' hl'
      omega
    · intro k k' hk hk' _
      rw [kow_0 hk, kow_0 hk']
  refine lv_pop hx hb dX4_addRegion_80 rfl ?_
  refine lv_iload_n hx hb dX4_addRegion_81 rfl (lv_at hl 1 rfl) ?_
  refine kend_i S hr hlocks hS ⟨rfl, _, kadd_old ad _ _ (by simp) (by simp [kow]), hf⟩ dX4_addRegion_82
set_option maxHeartbeats 4000000 in
set_option maxRecDepth 100000 in
theorem cp_addRegionS (ε : kEnv) (l : Launch) {A : Nat → Prop} {ad : Nat → Nat → Nat} {σ : kS} {H : Heap} {r : Nat} (hAb : ∀ q, A q → kHi ε q) (hw : kW ε A ad σ H) (hB : kB σ) (hr0 : r < σ 1 0) (hn6 : σ 1 0 < 6) (hz0 : kZ0 σ) (hA2 : ∀ q, H.size ≤ q → A q) : kMi ε l yX4_addRegion wsX4_addRegion ({ frames := 7, cells := 1 + kgc (σ 1 0), slots := 4 + kgs (σ 1 0), locals := 220 }) [.ref (ad 0 0), .int (nI r)] H A (1 + kgc (σ 1 0)) (4 + kgs (σ 1 0)) (fun v H' => v = nI (σ 1 0) ∧ ∃ ad', ad' 0 0 = ad 0 0 ∧ kW ε A ad' (kAddR σ (r + 1)) H') := by
  refine kof (cc := cX4_addRegion) (maxL := 4) (ret := (some .int)) (by decide) rfl (Nat.le_of_ble_eq_true rfl) ?_
  intro p e s m below meth c ls S hr hlocks hin hH hE hl
  have S : CallFix p m c cX4_addRegion 4 s _ wsX4_addRegion RX4 := S
  have hx := S.1
  have hb := S.2.1
  have hown : s.vm.findClass RX4 = some m.cls := S.2.2.2.1
  have hts := S.2.2.2.2
  have hK := hE.1
  have hS : va_S A s.heap H [] := by rw [hH]; exact va_S.rf
  have hnR := hB.nR
  have hnC := hB.nC
  have hnW := hB.nW
  have hnA := hB.nA
  have hmn := hB.min
  have hl : lv_has ls 4 [(0, .ref (ad 0 0)), (1, .int (nI r))] := hl
  have hbz : ε.2.2.1 ≤ H.size := hAb _ (hA2 _ (Nat.le_refl _))
  have hlt : ∀ k j, kLv σ k j → ad k j < H.size := fun k j h => va_at.lt (hw.1 k j h).1
  refine lv_iload_n hx hb dX4_addRegion_0 rfl (lv_at hl 1 rfl) ?_
  refine lv_iconst (v := -1) hx hb dX4_addRegion_1 (by decide) ?_
  refine lv_icmp_eq (tgt := 10) hx hb dX4_addRegion_2 (by decide) (fun hc => absurd hc (fun h => nI_pos (n := r) (by omega) (by rw [h]; decide))) (fun _ => ?_)
  refine lv_aload_n hx hb dX4_addRegion_5 rfl (lv_at hl 0 rfl) ?_
  refine lv_iload_n hx hb dX4_addRegion_6 rfl (lv_at hl 1 rfl) ?_
  refine kgo_pv (kc_V (As := [.int (nI r)]) (rest := []) S hE hS hAb (cc_requireRegion ε l hw hB hr0) (cwV 1 hts gX4_addRegion_X4_requireRegion rfl rfl rfl (by decide +kernel) ⟨Nat.le_of_ble_eq_true rfl, Nat.le_of_ble_eq_true rfl⟩) (hw.lv 0 0 (rfl : (0 : Nat) = 0)) rfl rfl hl.1 rfl (Nat.le_of_ble_eq_true rfl) dX4_addRegion_7 ⟨Nat.zero_le _, Nat.zero_le _⟩) hS (fun locs hS => ?_)
  refine lv_aload_n hx hb dX4_addRegion_10 rfl (lv_at hl 0 rfl) ?_
  refine kr_get (T := TX4) (N := 7) hx hb hts hown hK (hw.lv 0 0 (rfl : (0 : Nat) = 0)) rfl kin_X4_addRegion_X4 0 (by decide) (by decide +kernel) rfl dX4_addRegion_11 ?_
  refine kgo_pi (v := nI (σ 1 0)) (kc_V (As := []) (rest := []) S hE hS hAb (kw_size l hw 0 (by decide)) (cwV 0 hts gX4_addRegion_Jx4a65c_size_8abf5 rfl rfl rfl (by decide +kernel) ⟨Nat.le_of_ble_eq_true rfl, Nat.le_of_ble_eq_true rfl⟩) (hw.lv 1 0 (by decide : (0 : Nat) < 4)) rfl rfl hl.1 rfl (Nat.le_of_ble_eq_true rfl) dX4_addRegion_14 ⟨Nat.zero_le _, Nat.zero_le _⟩) hS (fun locs hS => ?_)
  refine lv_bipush (v := 6) hx hb dX4_addRegion_17 (by decide) ?_
  refine lv_icmp_lt (tgt := 32) hx hb dX4_addRegion_19 (by decide) (fun _ => ?_) (fun hc => absurd (nI_lt (a := σ 1 0) (b := 6) hn6 (by decide)) hc)
  refine lv_aload_n hx hb dX4_addRegion_32 rfl (lv_at hl 0 rfl) ?_
  refine kr_get (T := TX4) (N := 7) hx hb hts hown hK (hw.lv 0 0 (rfl : (0 : Nat) = 0)) rfl kin_X4_addRegion_X4 0 (by decide) (by decide +kernel) rfl dX4_addRegion_33 ?_
  refine kgo_pi (v := nI (σ 1 0)) (kc_V (As := []) (rest := []) S hE hS hAb (kw_size l hw 0 (by decide)) (cwV 0 hts gX4_addRegion_Jx4a65c_size_8abf5 rfl rfl rfl (by decide +kernel) ⟨Nat.le_of_ble_eq_true rfl, Nat.le_of_ble_eq_true rfl⟩) (hw.lv 1 0 (by decide : (0 : Nat) < 4)) rfl rfl hl.1 rfl (Nat.le_of_ble_eq_true rfl) dX4_addRegion_36 ⟨Nat.zero_le _, Nat.zero_le _⟩) hS (fun locs hS => ?_)
  refine lv_istore_n (lv' := [(2, .int (nI (σ 1 0))), (0, .ref (ad 0 0)), (1, .int (nI r))]) hx hb dX4_addRegion_39 rfl hl (by decide) rfl (fun ls hl => ?_)
  refine lv_iload_n hx hb dX4_addRegion_40 rfl (lv_at hl 2 rfl) ?_
  refine lv_iconst (v := -1) hx hb dX4_addRegion_41 (by decide) ?_
  refine lv_icmp_ne (tgt := 49) hx hb dX4_addRegion_42 (by decide) (fun _ => ?_) (fun h => absurd h (fun h => nI_pos (n := r) (by omega) (by rw [h]; decide)))
  refine lv_aload_n hx hb dX4_addRegion_49 rfl (lv_at hl 1 rfl) ?_
  refine kr_get (T := TX4) (N := 7) hx hb hts hown hK (hw.lv 0 0 (rfl : (0 : Nat) = 0)) rfl kin_X4_addRegion_X4 0 (by decide) (by decide +kernel) rfl dX4_addRegion_50 ?_
  refine lv_iload_n hx hb dX4_addRegion_53 rfl (lv_at hl 2 rfl) ?_
  refine kgo_pr (v := ad 3 r) (kc_V (As := [.int (nI r)]) (rest := []) S hE hS hAb (kw_get l hw hB 0 (by decide) (j := r) (x := ad 3 r) hr0 rfl) (cwV 1 hts gX4_addRegion_Jx4a65c_get_915e3 rfl rfl rfl (by decide +kernel) ⟨Nat.le_of_ble_eq_true rfl, Nat.le_of_ble_eq_true rfl⟩) (hw.lv 1 0 (by decide : (0 : Nat) < 4)) rfl rfl hl.1 rfl (Nat.le_of_ble_eq_true rfl) dX4_addRegion_54 ⟨Nat.zero_le _, Nat.zero_le _⟩) hS (fun locs hS => ?_)
  refine kr_cast (T := TX2) (N := 4) hx hb hts hown hK (hw.lv 3 r hr0) rfl (by decide +kernel) dX4_addRegion_57 ?_
  refine kr_get (T := TX2) (N := 4) hx hb hts hown hK (hw.lv 3 r hr0) rfl kin_X4_addRegion_X2 1 (by decide) (by decide +kernel) rfl dX4_addRegion_60 ?_
  refine lv_istore_n (lv' := [(3, .int (nI (σ 11 r))), (2, .int (nI (σ 1 0))), (0, .ref (ad 0 0)), (1, .int (nI r))]) hx hb dX4_addRegion_63 rfl hl (by decide) rfl (fun ls hl => ?_)
  refine lv_aload_n hx hb dX4_addRegion_64 rfl (lv_at hl 2 rfl) ?_
  refine kr_get (T := TX4) (N := 7) hx hb hts hown hK (hw.lv 0 0 (rfl : (0 : Nat) = 0)) rfl kin_X4_addRegion_X4 0 (by decide) (by decide +kernel) rfl dX4_addRegion_65 ?_
  refine kr_new (T := TX2) (N := 4) (ci := 3) (fs := [.int 0, .int 0, .int 0, .int 0]) hx hb hts hown hK hS rfl kin_X4_addRegion_X2 tyX2 tyX2_ok (by decide +kernel) (by decide +kernel) (by decide +kernel) (dvX2) (by show 0 + 1 ≤ 1 + kgc (σ 1 0); omega) (by show 0 + 4 ≤ 4 + kgs (σ 1 0); omega) dX4_addRegion_68 (fun H1 hN hnew hS => ?_)
  have hw := hw.new hN
  have hz1 := hN.1
  clear hN
  refine lv_dup hx hb dX4_addRegion_71 rfl ?_
  refine lv_iload_n hx hb dX4_addRegion_72 rfl (lv_at hl 1 rfl) ?_
  refine lv_iload_n hx hb dX4_addRegion_73 rfl (lv_at hl 0 rfl) ?_
  refine kgo_v (kc_I (As := [.int (nI (σ 1 0)), .int (nI (σ 11 r))]) (rest := [.ref H.size, .ref (ad 1 0)]) S hE hS hAb (ci_region ε l hbz (t := σ 11 r) (r := σ 1 0) (hB.rg r hr0).1 hn6 hnew) (cwI 2 hts gX4_addRegion_X2_init rfl rfl rfl (hts (.initialized RX2) (by decide +kernel)) (hts (.methodLink RX4 59 yX2_init) (by decide +kernel)) (hts (.instanceMethod yX2_init) (by decide +kernel)) rfl (by decide +kernel) ⟨Nat.le_of_ble_eq_true rfl, Nat.le_of_ble_eq_true rfl⟩) rfl hl.1 rfl (Nat.le_of_ble_eq_true rfl) dX4_addRegion_74 ⟨by show 0 + 1 + 0 ≤ 1 + kgc (σ 1 0); omega, by show 0 + 4 + 0 ≤ 4 + kgs (σ 1 0); omega⟩) hS (fun q h => hA2 q (Nat.le_of_eq h.symm)) (fun H2 locs hal hz hq hS => ?_)
  have hw := hw.keep (fun k j h => hq _ (by have := hlt k j h; omega) (by have := hlt k j h; omega))
  clear hq
  have hadd := kw_add (i := 0) l hAb hw (by decide) (by show σ 1 0 ≤ 1000000; omega) (by omega) (x := H.size) ⟨3, _, _, hal, rfl, by decide⟩ (by have := hlt 1 0 (by decide : (0 : Nat) < 4); omega)
  have hA3 := hw.a2 (i := 0) (by decide) (fun q h => hA2 q (by omega))
  refine kgo_i (kc_V (As := [.ref H.size]) (rest := []) S hE hS hAb (hadd) (cwV 1 hts gX4_addRegion_Jx4a65c_add_9ea2d rfl rfl rfl (by decide +kernel) ⟨Nat.le_of_ble_eq_true rfl, Nat.le_of_ble_eq_true rfl⟩) (hw.lv 1 0 (by decide : (0 : Nat) < 4)) rfl rfl hl.1 rfl (Nat.le_of_ble_eq_true rfl) dX4_addRegion_77 ⟨by show 0 + 1 + 0 + kgc (σ 1 0) ≤ 1 + kgc (σ 1 0); omega, by show 0 + 4 + 0 + kgs (σ 1 0) ≤ 4 + kgs (σ 1 0); omega⟩) hS hA3 (fun r9 H4 locs hp hz4 hq hS => ?_)
  refine kr_room (c1 := 1 + kgc (σ 1 0)) (s1 := 4 + kgs (σ 1 0)) (by show 0 + 1 + 0 + kgc (σ 1 0) = _; omega) (by show 0 + 4 + 0 + kgs (σ 1 0) = _; omega) ?_
  have hc9 : ∀ i' : Nat, i' < 4 → i' ≠ 0 → (kAddR σ (r + 1)) (i' + 1) 0 = σ (i' + 1) 0 := by
    intro i' hi' hne
    match i', hi', hne with
    | 0, _, h => exact absurd rfl h
    | 1, _, _ => simp [kAddR, ku]
    | 2, _, _ => simp [kAddR, ku]
    | 3, _, _ => simp [kAddR, ku]
  have hf : kW ε A (kadd ad 0 (σ 1 0) (fun _ => H.size) (if σ 1 0 < kcap (σ 1 0) then ad 2 0 else H2.size)) (kAddR σ (r + 1)) H4 := by
    refine kW.grow (i := 0) (b := fun _ => H.size) hw (by decide) rfl (fun h => absurd h (by decide)) (by simp [kAddR, ku]) hc9 ?_ ?_ ?_ ?_ hp.2 hq (fun q h => hA2 q (by omega))
    · intro k j hl h1 h2
      match k, hl, h1, h2 with
      | 0, _, _, _ => simp [kAg, kAddR, ku]
      | 1, hl, h1, _ => exact hc9 j hl (fun h => h1 ⟨rfl, h⟩)
      | 2, hl, _, h2 => exact hc9 j hl.1 (fun h => h2 ⟨rfl, h⟩)
      | 3, hl, _, _ =>
        have hj : j ≠ σ 1 0 := kLv_el9 (i := 0) (k := 3) (by decide) rfl hl
        simp [kAg, kAddR, ku, hj]
      | 4, _, _, _ => simp [kAg, kAddR, ku]
      | 5, _, _, _ => simp [kAg, kAddR, ku]
      | 6, _, _, _ => simp [kAg, kAddR, ku]
      | 7, _, _, _ => simp [kAg, kAddR, ku]
      | 8, _, _, _ => simp [kAg, kAddR, ku]
      | 9, _, _, _ => simp [kAg, kAddR, ku]
    · intro k hk
      have h9k := kow_0 hk
      subst h9k
      refine ⟨?_, hA2 _ (Nat.le_refl _)⟩
      have z12 := (hz0.1 _ (Nat.le_refl _)).1
      have z13 := (hz0.1 _ (Nat.le_refl _)).2
      have e1 : kAddR σ (r + 1) 11 (σ 1 0) = kwr (σ 11 r) (σ 1 0) true := by simp [kAddR, ku]
      have e2 : kAddR σ (r + 1) 12 (σ 1 0) = 0 := (show _ = σ 12 (σ 1 0) by simp [kAddR, ku]).trans z12
      have e3 : kAddR σ (r + 1) 13 (σ 1 0) = 0 := (show _ = σ 13 (σ 1 0) by simp [kAddR, ku]).trans z13
      show kat ε H.size (.inr (3, [.int (nI (σ 1 0)), .int (nI (kAddR σ (r + 1) 11 (σ 1 0))), .int (nI (kAddR σ (r + 1) 12 (σ 1 0))), .int (nI (kAddR σ (r + 1) 13 (σ 1 0)))])) H2
      rw [e1, e2, e3]
      exact hal
    · intro k hk k' j' hl' he
      have := hlt k' j' hl'
      omega
    · intro k k' hk hk' _
      rw [kow_0 hk, kow_0 hk']
  refine lv_pop hx hb dX4_addRegion_80 rfl ?_
  refine lv_iload_n hx hb dX4_addRegion_81 rfl (lv_at hl 1 rfl) ?_
  refine kend_i S hr hlocks hS ⟨rfl, _, kadd_old ad _ _ (by simp) (by simp [kow]), hf⟩ dX4_addRegion_82
set_option maxHeartbeats 4000000 in
set_option maxRecDepth 100000 in
theorem cp_addCheck (ε : kEnv) (l : Launch) {A : Nat → Prop} {ad : Nat → Nat → Nat} {σ : kS} {H : Heap} {t1 t2 t3 t4 : Nat} (hAb : ∀ q, A q → kHi ε q) (hw : kW ε A ad σ H) (hB : kB σ) (h1a : 1 ≤ t1) (h1b : t1 ≤ 60) (h2b : t2 ≤ 1000) (h3b : t3 ≤ 3) (h4a : 1 ≤ t4) (h4b : t4 ≤ 6) (hn8 : σ 2 0 < 8) (hz0 : kZ0 σ) (hA2 : ∀ q, H.size ≤ q → A q) : kMi ε l yX4_addCheck wsX4_addCheck ({ frames := 7, cells := 4 + kgc (σ 2 0), slots := 31 + kgs (σ 2 0), locals := 220 }) [.ref (ad 0 0), .int (nI t1), .int (nI t2), .int (nI t3), .int (nI t4)] H A (4 + kgc (σ 2 0)) (31 + kgs (σ 2 0)) (fun v H' => v = nI (σ 2 0) ∧ ∃ ad', ad' 0 0 = ad 0 0 ∧ kW ε A ad' (kAddC σ t1 t2 t3 t4) H') := by
  refine kof (cc := cX4_addCheck) (maxL := 6) (ret := (some .int)) (by decide) rfl (Nat.le_of_ble_eq_true rfl) ?_
  intro p e s m below meth c ls S hr hlocks hin hH hE hl
  have S : CallFix p m c cX4_addCheck 6 s _ wsX4_addCheck RX4 := S
  have hx := S.1
  have hb := S.2.1
  have hown : s.vm.findClass RX4 = some m.cls := S.2.2.2.1
  have hts := S.2.2.2.2
  have hK := hE.1
  have hS : va_S A s.heap H [] := by rw [hH]; exact va_S.rf
  have hnR := hB.nR
  have hnC := hB.nC
  have hnW := hB.nW
  have hnA := hB.nA
  have hmn := hB.min
  have hl : lv_has ls 6 [(0, .ref (ad 0 0)), (1, .int (nI t1)), (2, .int (nI t2)), (3, .int (nI t3)), (4, .int (nI t4))] := hl
  have hbz : ε.2.2.1 ≤ H.size := hAb _ (hA2 _ (Nat.le_refl _))
  have hlt : ∀ k j, kLv σ k j → ad k j < H.size := fun k j h => va_at.lt (hw.1 k j h).1
  refine lv_iload_n hx hb dX4_addCheck_0 rfl (lv_at hl 1 rfl) ?_
  refine lv_iconst (v := 1) hx hb dX4_addCheck_1 (by decide) ?_
  refine lv_bipush (v := 60) hx hb dX4_addCheck_2 (by decide) ?_
  refine kgo_pv (kc_S (As := [.int (nI t1), .int 1, .int 60]) (rest := []) S hE hS hAb (cc_rng ε l (nI_nlt (a := t1) (b := 1) h1a (by omega)) (nI_leI (a := t1) (b := 60) (by omega) (by decide) |>.mpr h1b)) (va_cwS 3 hts gX4_addCheck_X4_requireRange rfl rfl rfl (by decide +kernel) ⟨Nat.le_of_ble_eq_true rfl, Nat.le_of_ble_eq_true rfl⟩) rfl hl.1 rfl (Nat.le_of_ble_eq_true rfl) dX4_addCheck_4 ⟨Nat.zero_le _, Nat.zero_le _⟩) hS (fun locs hS => ?_)
  refine lv_iload_n hx hb dX4_addCheck_7 rfl (lv_at hl 2 rfl) ?_
  refine lv_iconst (v := 0) hx hb dX4_addCheck_8 (by decide) ?_
  refine lv_sipush (v := 1000) hx hb dX4_addCheck_9 (by decide) ?_
  refine kgo_pv (kc_S (As := [.int (nI t2), .int 0, .int 1000]) (rest := []) S hE hS hAb (cc_rng ε l (nI_nlt (a := t2) (b := 0) (Nat.zero_le _) (by omega)) (nI_leI (a := t2) (b := 1000) (by omega) (by decide) |>.mpr h2b)) (va_cwS 3 hts gX4_addCheck_X4_requireRange rfl rfl rfl (by decide +kernel) ⟨Nat.le_of_ble_eq_true rfl, Nat.le_of_ble_eq_true rfl⟩) rfl hl.1 rfl (Nat.le_of_ble_eq_true rfl) dX4_addCheck_12 ⟨Nat.zero_le _, Nat.zero_le _⟩) hS (fun locs hS => ?_)
  refine lv_iload_n hx hb dX4_addCheck_15 rfl (lv_at hl 3 rfl) ?_
  refine lv_iconst (v := 0) hx hb dX4_addCheck_16 (by decide) ?_
  refine lv_iconst (v := 3) hx hb dX4_addCheck_17 (by decide) ?_
  refine kgo_pv (kc_S (As := [.int (nI t3), .int 0, .int 3]) (rest := []) S hE hS hAb (cc_rng ε l (nI_nlt (a := t3) (b := 0) (Nat.zero_le _) (by omega)) (nI_leI (a := t3) (b := 3) (by omega) (by decide) |>.mpr h3b)) (va_cwS 3 hts gX4_addCheck_X4_requireRange rfl rfl rfl (by decide +kernel) ⟨Nat.le_of_ble_eq_true rfl, Nat.le_of_ble_eq_true rfl⟩) rfl hl.1 rfl (Nat.le_of_ble_eq_true rfl) dX4_addCheck_18 ⟨Nat.zero_le _, Nat.zero_le _⟩) hS (fun locs hS => ?_)
  refine lv_iload hx hb dX4_addCheck_21 (lv_at hl 4 rfl) ?_
  refine lv_iconst (v := 1) hx hb dX4_addCheck_23 (by decide) ?_
  refine lv_bipush (v := 6) hx hb dX4_addCheck_24 (by decide) ?_
  refine kgo_pv (kc_S (As := [.int (nI t4), .int 1, .int 6]) (rest := []) S hE hS hAb (cc_rng ε l (nI_nlt (a := t4) (b := 1) h4a (by omega)) (nI_leI (a := t4) (b := 6) (by omega) (by decide) |>.mpr h4b)) (va_cwS 3 hts gX4_addCheck_X4_requireRange rfl rfl rfl (by decide +kernel) ⟨Nat.le_of_ble_eq_true rfl, Nat.le_of_ble_eq_true rfl⟩) rfl hl.1 rfl (Nat.le_of_ble_eq_true rfl) dX4_addCheck_26 ⟨Nat.zero_le _, Nat.zero_le _⟩) hS (fun locs hS => ?_)
  refine lv_aload_n hx hb dX4_addCheck_29 rfl (lv_at hl 0 rfl) ?_
  refine kr_get (T := TX4) (N := 7) hx hb hts hown hK (hw.lv 0 0 (rfl : (0 : Nat) = 0)) rfl kin_X4_addCheck_X4 1 (by decide) (by decide +kernel) rfl dX4_addCheck_30 ?_
  refine kgo_pi (v := nI (σ 2 0)) (kc_V (As := []) (rest := []) S hE hS hAb (kw_size l hw 1 (by decide)) (cwV 0 hts gX4_addCheck_Jx4a65c_size_8abf5 rfl rfl rfl (by decide +kernel) ⟨Nat.le_of_ble_eq_true rfl, Nat.le_of_ble_eq_true rfl⟩) (hw.lv 1 1 (by decide : (1 : Nat) < 4)) rfl rfl hl.1 rfl (Nat.le_of_ble_eq_true rfl) dX4_addCheck_33 ⟨Nat.zero_le _, Nat.zero_le _⟩) hS (fun locs hS => ?_)
  refine lv_bipush (v := 8) hx hb dX4_addCheck_36 (by decide) ?_
  refine lv_icmp_lt (tgt := 51) hx hb dX4_addCheck_38 (by decide) (fun _ => ?_) (fun hc => absurd (nI_lt (a := σ 2 0) (b := 8) hn8 (by decide)) hc)
  refine lv_aload_n hx hb dX4_addCheck_51 rfl (lv_at hl 0 rfl) ?_
  refine kr_get (T := TX4) (N := 7) hx hb hts hown hK (hw.lv 0 0 (rfl : (0 : Nat) = 0)) rfl kin_X4_addCheck_X4 1 (by decide) (by decide +kernel) rfl dX4_addCheck_52 ?_
  refine kgo_pi (v := nI (σ 2 0)) (kc_V (As := []) (rest := []) S hE hS hAb (kw_size l hw 1 (by decide)) (cwV 0 hts gX4_addCheck_Jx4a65c_size_8abf5 rfl rfl rfl (by decide +kernel) ⟨Nat.le_of_ble_eq_true rfl, Nat.le_of_ble_eq_true rfl⟩) (hw.lv 1 1 (by decide : (1 : Nat) < 4)) rfl rfl hl.1 rfl (Nat.le_of_ble_eq_true rfl) dX4_addCheck_55 ⟨Nat.zero_le _, Nat.zero_le _⟩) hS (fun locs hS => ?_)
  refine lv_istore (lv' := [(5, .int (nI (σ 2 0))), (0, .ref (ad 0 0)), (1, .int (nI t1)), (2, .int (nI t2)), (3, .int (nI t3)), (4, .int (nI t4))]) hx hb dX4_addCheck_58 hl (by decide) rfl (fun ls hl => ?_)
  refine lv_aload_n hx hb dX4_addCheck_60 rfl (lv_at hl 1 rfl) ?_
  refine kr_get (T := TX4) (N := 7) hx hb hts hown hK (hw.lv 0 0 (rfl : (0 : Nat) = 0)) rfl kin_X4_addCheck_X4 1 (by decide) (by decide +kernel) rfl dX4_addCheck_61 ?_
  refine kr_new (T := TX1) (N := 13) (ci := 2) (fs := [.int 0, .int 0, .int 0, .int 0, .int 0, .int 0, .null, .null, .null, .int 0, .null, .int 0, .int 0]) hx hb hts hown hK hS rfl kin_X4_addCheck_X1 tyX1 tyX1_ok (by decide +kernel) (by decide +kernel) (by decide +kernel) (dvX1) (by show 0 + 1 ≤ 4 + kgc (σ 2 0); omega) (by show 0 + 13 ≤ 31 + kgs (σ 2 0); omega) dX4_addCheck_64 (fun H1 hN hnew hS => ?_)
  have hw := hw.new hN
  have hz1 := hN.1
  clear hN
  refine lv_dup hx hb dX4_addCheck_67 rfl ?_
  refine lv_iload hx hb dX4_addCheck_68 (lv_at hl 0 rfl) ?_
  refine lv_iload_n hx hb dX4_addCheck_70 rfl (lv_at hl 2 rfl) ?_
  refine lv_iload_n hx hb dX4_addCheck_71 rfl (lv_at hl 3 rfl) ?_
  refine lv_iload_n hx hb dX4_addCheck_72 rfl (lv_at hl 4 rfl) ?_
  refine lv_iload hx hb dX4_addCheck_73 (lv_at hl 5 rfl) ?_
  refine kgo_v (kc_I (As := [.int (nI (σ 2 0)), .int (nI t1), .int (nI t2), .int (nI t3), .int (nI t4)]) (rest := [.ref H.size, .ref (ad 1 1)]) S hE hS hAb (ci_check ε l hbz hnew) (cwI 5 hts gX4_addCheck_X1_init rfl rfl rfl (hts (.initialized RX1) (by decide +kernel)) (hts (.methodLink RX4 74 yX1_init) (by decide +kernel)) (hts (.instanceMethod yX1_init) (by decide +kernel)) rfl (by decide +kernel) ⟨Nat.le_of_ble_eq_true rfl, Nat.le_of_ble_eq_true rfl⟩) rfl hl.1 rfl (Nat.le_of_ble_eq_true rfl) dX4_addCheck_75 ⟨by show 0 + 1 + 3 ≤ 4 + kgc (σ 2 0); omega, by show 0 + 13 + 18 ≤ 31 + kgs (σ 2 0); omega⟩) hS (fun q h => h.elim (fun h => hA2 q (Nat.le_of_eq h.symm)) (fun h => hA2 q (by omega))) (fun H2 locs hal hz hq hS => ?_)
  have hw := hw.keep (fun k j h => hq _ (by have := hlt k j h; omega) (fun h9 => by have := hlt k j h; rcases h9 with h9 | h9 <;> omega))
  clear hq
  obtain ⟨q5, q6, q7, hs5, hsz, hs6, hs7, hr5, hr6, hr7, hal⟩ := hal
  have hq7 := va_at.lt hr7
  have hadd := kw_add (i := 1) l hAb hw (by decide) (by show σ 2 0 ≤ 1000000; omega) (by omega) (x := H.size) ⟨2, _, _, hal, rfl, by decide⟩ (by have := hlt 1 1 (by decide : (1 : Nat) < 4); omega)
  have hA3 := hw.a2 (i := 1) (by decide) (fun q h => hA2 q (by omega))
  refine kgo_i (kc_V (As := [.ref H.size]) (rest := []) S hE hS hAb (hadd) (cwV 1 hts gX4_addCheck_Jx4a65c_add_9ea2d rfl rfl rfl (by decide +kernel) ⟨Nat.le_of_ble_eq_true rfl, Nat.le_of_ble_eq_true rfl⟩) (hw.lv 1 1 (by decide : (1 : Nat) < 4)) rfl rfl hl.1 rfl (Nat.le_of_ble_eq_true rfl) dX4_addCheck_78 ⟨by show 0 + 1 + 3 + kgc (σ 2 0) ≤ 4 + kgc (σ 2 0); omega, by show 0 + 13 + 18 + kgs (σ 2 0) ≤ 31 + kgs (σ 2 0); omega⟩) hS hA3 (fun r9 H4 locs hp hz4 hq hS => ?_)
  refine kr_room (c1 := 4 + kgc (σ 2 0)) (s1 := 31 + kgs (σ 2 0)) (by show 0 + 1 + 3 + kgc (σ 2 0) = _; omega) (by show 0 + 13 + 18 + kgs (σ 2 0) = _; omega) ?_
  have hc9 : ∀ i' : Nat, i' < 4 → i' ≠ 1 → (kAddC σ t1 t2 t3 t4) (i' + 1) 0 = σ (i' + 1) 0 := by
    intro i' hi' hne
    match i', hi', hne with
    | 0, _, _ => simp [kAddC, ku]
    | 1, _, h => exact absurd rfl h
    | 2, _, _ => simp [kAddC, ku]
    | 3, _, _ => simp [kAddC, ku]
  have hf : kW ε A (kadd ad 1 (σ 2 0) (fun k => if k = 4 then H.size else if k = 5 then q5 else if k = 6 then q6 else q7) (if σ 2 0 < kcap (σ 2 0) then ad 2 1 else H2.size)) (kAddC σ t1 t2 t3 t4) H4 := by
    refine kW.grow (i := 1) (b := fun k => if k = 4 then H.size else if k = 5 then q5 else if k = 6 then q6 else q7) hw (by decide) rfl (fun h => absurd h (by decide)) (by simp [kAddC, ku]) hc9 ?_ ?_ ?_ ?_ hp.2 hq (fun q h => hA2 q (by omega))
    · intro k j hl h1 h2
      match k, hl, h1, h2 with
      | 0, _, _, _ => simp [kAg, kAddC, ku]
      | 1, hl, h1, _ => exact hc9 j hl (fun h => h1 ⟨rfl, h⟩)
      | 2, hl, _, h2 => exact hc9 j hl.1 (fun h => h2 ⟨rfl, h⟩)
      | 3, _, _, _ => simp [kAg, kAddC, ku]
      | 4, hl, _, _ =>
        have hj : j ≠ σ 2 0 := kLv_el9 (i := 1) (k := 4) (by decide) rfl hl
        simp [kAg, kAddC, ku, hj]
      | 5, hl, _, _ =>
        have hj : j ≠ σ 2 0 := kLv_el9 (i := 1) (k := 5) (by decide) rfl hl
        simp [kAg, kAddC, ku, hj]
      | 6, hl, _, _ =>
        have hj : j ≠ σ 2 0 := kLv_el9 (i := 1) (k := 6) (by decide) rfl hl
        simp [kAg, kAddC, ku, hj]
      | 7, hl, _, _ =>
        have hj : j ≠ σ 2 0 := kLv_el9 (i := 1) (k := 7) (by decide) rfl hl
        simp [kAg, kAddC, ku, hj]
      | 8, _, _, _ => simp [kAg, kAddC, ku]
      | 9, _, _, _ => simp [kAg, kAddC, ku]
    · intro k hk
      have z := hz0.2.1 _ (Nat.le_refl _)
      have z9 : ∀ j, σ 31 (6 * σ 2 0 + j) = 0 ∧ σ 32 (6 * σ 2 0 + j) = 0 ∧ σ 33 (6 * σ 2 0 + j) = 0 := fun j => hz0.2.2 _ (Nat.le_add_right _ _)
      rcases kow_1 hk with rfl | rfl | rfl | rfl
      · refine ⟨?_, hA2 _ (Nat.le_refl _)⟩
        have e20 : kAddC σ t1 t2 t3 t4 20 (σ 2 0) = t1 := by simp [kAddC, ku]
        have e21 : kAddC σ t1 t2 t3 t4 21 (σ 2 0) = t2 := by simp [kAddC, ku]
        have e22 : kAddC σ t1 t2 t3 t4 22 (σ 2 0) = t3 := by simp [kAddC, ku]
        have e23 : kAddC σ t1 t2 t3 t4 23 (σ 2 0) = t4 := by simp [kAddC, ku]
        have e24 : kAddC σ t1 t2 t3 t4 24 (σ 2 0) = 0 := (show _ = σ 24 (σ 2 0) by simp [kAddC, ku]).trans z.1
        have e25 : kAddC σ t1 t2 t3 t4 25 (σ 2 0) = 0 := (show _ = σ 25 (σ 2 0) by simp [kAddC, ku]).trans z.2.1
        have e26 : kAddC σ t1 t2 t3 t4 26 (σ 2 0) = 0 := (show _ = σ 26 (σ 2 0) by simp [kAddC, ku]).trans z.2.2.1
        have e27 : kAddC σ t1 t2 t3 t4 27 (σ 2 0) = 0 := (show _ = σ 27 (σ 2 0) by simp [kAddC, ku]).trans z.2.2.2.1
        have e30 : kAddC σ t1 t2 t3 t4 30 (σ 2 0) = 0 := (show _ = σ 30 (σ 2 0) by simp [kAddC, ku]).trans z.2.2.2.2
        have a5 := kadd_new ad (σ 2 0) (fun k => if k = 4 then H.size else if k = 5 then q5 else if k = 6 then q6 else q7) (if σ 2 0 < kcap (σ 2 0) then ad 2 1 else H2.size) (show kow 1 5 = true from rfl)
        have a6 := kadd_new ad (σ 2 0) (fun k => if k = 4 then H.size else if k = 5 then q5 else if k = 6 then q6 else q7) (if σ 2 0 < kcap (σ 2 0) then ad 2 1 else H2.size) (show kow 1 6 = true from rfl)
        have a7 := kadd_new ad (σ 2 0) (fun k => if k = 4 then H.size else if k = 5 then q5 else if k = 6 then q6 else q7) (if σ 2 0 < kcap (σ 2 0) then ad 2 1 else H2.size) (show kow 1 7 = true from rfl)
        simp only [kC, e20, e21, e22, e23, e24, e25, e26, e27, e30, a5, a6, a7]
        exact hal
      · refine ⟨kI_ext (fun j hj => ?_) hr5, hA2 _ (by show H.size ≤ q5; omega)⟩
        show (0 : Int32) = nI (kAddC σ t1 t2 t3 t4 31 (6 * σ 2 0 + j))
        rw [show kAddC σ t1 t2 t3 t4 31 (6 * σ 2 0 + j) = 0 from (show _ = σ 31 (6 * σ 2 0 + j) by simp [kAddC, ku]).trans (z9 j).1]
        rfl
      · refine ⟨kI_ext (fun j hj => ?_) hr6, hA2 _ (by show H.size ≤ q6; omega)⟩
        show (0 : Int32) = nI (kAddC σ t1 t2 t3 t4 32 (6 * σ 2 0 + j))
        rw [show kAddC σ t1 t2 t3 t4 32 (6 * σ 2 0 + j) = 0 from (show _ = σ 32 (6 * σ 2 0 + j) by simp [kAddC, ku]).trans (z9 j).2.1]
        rfl
      · refine ⟨kI_ext (fun j hj => ?_) hr7, hA2 _ (by show H.size ≤ q7; omega)⟩
        show (0 : Int32) = nI (kAddC σ t1 t2 t3 t4 33 (6 * σ 2 0 + j))
        rw [show kAddC σ t1 t2 t3 t4 33 (6 * σ 2 0 + j) = 0 from (show _ = σ 33 (6 * σ 2 0 + j) by simp [kAddC, ku]).trans (z9 j).2.2]
        rfl
    · intro k hk k' j' hl' he
      have h9 := hlt k' j' hl'
      rcases kow_1 hk with rfl | rfl | rfl | rfl
      · exact absurd (show H.size = ad k' j' from he) (by omega)
      · exact absurd (show q5 = ad k' j' from he) (by omega)
      · exact absurd (show q6 = ad k' j' from he) (by omega)
      · exact absurd (show q7 = ad k' j' from he) (by omega)
    · intro k k' hk hk' he
      rcases kow_1 hk with rfl | rfl | rfl | rfl <;> rcases kow_1 hk' with rfl | rfl | rfl | rfl <;> first | rfl | (exfalso; revert he; simp; omega)
  refine lv_pop hx hb dX4_addCheck_81 rfl ?_
  refine lv_iload hx hb dX4_addCheck_82 (lv_at hl 0 rfl) ?_
  refine kend_i S hr hlocks hS ⟨rfl, _, kadd_old ad _ _ (by simp) (by simp [kow]), hf⟩ dX4_addCheck_84
set_option maxHeartbeats 4000000 in
set_option maxRecDepth 100000 in
theorem cp_addWindow (ε : kEnv) (l : Launch) {A : Nat → Prop} {ad : Nat → Nat → Nat} {σ : kS} {H : Heap} {i t1 t2 : Nat} (hAb : ∀ q, A q → kHi ε q) (hw : kW ε A ad σ H) (hB : kB σ) (hc0 : i < σ 2 0) (h1b : t1 ≤ 100000) (h2a : 1 ≤ t2) (h2b : t2 ≤ 10000) (hn12 : σ 3 0 < 12) (hA2 : ∀ q, H.size ≤ q → A q) : kMi ε l yX4_addWindow wsX4_addWindow ({ frames := 7, cells := 1 + kgc (σ 3 0), slots := 3 + kgs (σ 3 0), locals := 220 }) [.ref (ad 0 0), .int (nI i), .int (nI t1), .int (nI t2)] H A (1 + kgc (σ 3 0)) (3 + kgs (σ 3 0)) (fun v H' => v = nI (σ 3 0) ∧ ∃ ad', ad' 0 0 = ad 0 0 ∧ kW ε A ad' (kAddW σ i t1 t2) H') := by
  refine kof (cc := cX4_addWindow) (maxL := 4) (ret := (some .int)) (by decide) rfl (Nat.le_of_ble_eq_true rfl) ?_
  intro p e s m below meth c ls S hr hlocks hin hH hE hl
  have S : CallFix p m c cX4_addWindow 4 s _ wsX4_addWindow RX4 := S
  have hx := S.1
  have hb := S.2.1
  have hown : s.vm.findClass RX4 = some m.cls := S.2.2.2.1
  have hts := S.2.2.2.2
  have hK := hE.1
  have hS : va_S A s.heap H [] := by rw [hH]; exact va_S.rf
  have hnR := hB.nR
  have hnC := hB.nC
  have hnW := hB.nW
  have hnA := hB.nA
  have hmn := hB.min
  have hl : lv_has ls 4 [(0, .ref (ad 0 0)), (1, .int (nI i)), (2, .int (nI t1)), (3, .int (nI t2))] := hl
  have hbz : ε.2.2.1 ≤ H.size := hAb _ (hA2 _ (Nat.le_refl _))
  have hlt : ∀ k j, kLv σ k j → ad k j < H.size := fun k j h => va_at.lt (hw.1 k j h).1
  refine lv_aload_n hx hb dX4_addWindow_0 rfl (lv_at hl 0 rfl) ?_
  refine lv_iload_n hx hb dX4_addWindow_1 rfl (lv_at hl 1 rfl) ?_
  refine kgo_pv (kc_V (As := [.int (nI i)]) (rest := []) S hE hS hAb (cc_requireCheck ε l hw hB hc0) (cwV 1 hts gX4_addWindow_X4_requireCheck rfl rfl rfl (by decide +kernel) ⟨Nat.le_of_ble_eq_true rfl, Nat.le_of_ble_eq_true rfl⟩) (hw.lv 0 0 (rfl : (0 : Nat) = 0)) rfl rfl hl.1 rfl (Nat.le_of_ble_eq_true rfl) dX4_addWindow_2 ⟨Nat.zero_le _, Nat.zero_le _⟩) hS (fun locs hS => ?_)
  refine lv_iload_n hx hb dX4_addWindow_5 rfl (lv_at hl 2 rfl) ?_
  refine lv_iconst (v := 0) hx hb dX4_addWindow_6 (by decide) ?_
  refine lv_ldc (own := RX4) (v := 100000) hx hb hown (hts (.constant RX4 94 (100000)) (by decide +kernel)) dX4_addWindow_7 ?_
  refine kgo_pv (kc_S (As := [.int (nI t1), .int 0, .int 100000]) (rest := []) S hE hS hAb (cc_rng ε l (nI_nlt (a := t1) (b := 0) (Nat.zero_le _) (by omega)) (nI_leI (a := t1) (b := 100000) (by omega) (by decide) |>.mpr h1b)) (va_cwS 3 hts gX4_addWindow_X4_requireRange rfl rfl rfl (by decide +kernel) ⟨Nat.le_of_ble_eq_true rfl, Nat.le_of_ble_eq_true rfl⟩) rfl hl.1 rfl (Nat.le_of_ble_eq_true rfl) dX4_addWindow_9 ⟨Nat.zero_le _, Nat.zero_le _⟩) hS (fun locs hS => ?_)
  refine lv_iload_n hx hb dX4_addWindow_12 rfl (lv_at hl 3 rfl) ?_
  refine lv_iconst (v := 1) hx hb dX4_addWindow_13 (by decide) ?_
  refine lv_sipush (v := 10000) hx hb dX4_addWindow_14 (by decide) ?_
  refine kgo_pv (kc_S (As := [.int (nI t2), .int 1, .int 10000]) (rest := []) S hE hS hAb (cc_rng ε l (nI_nlt (a := t2) (b := 1) h2a (by omega)) (nI_leI (a := t2) (b := 10000) (by omega) (by decide) |>.mpr h2b)) (va_cwS 3 hts gX4_addWindow_X4_requireRange rfl rfl rfl (by decide +kernel) ⟨Nat.le_of_ble_eq_true rfl, Nat.le_of_ble_eq_true rfl⟩) rfl hl.1 rfl (Nat.le_of_ble_eq_true rfl) dX4_addWindow_17 ⟨Nat.zero_le _, Nat.zero_le _⟩) hS (fun locs hS => ?_)
  refine lv_aload_n hx hb dX4_addWindow_20 rfl (lv_at hl 0 rfl) ?_
  refine kr_get (T := TX4) (N := 7) hx hb hts hown hK (hw.lv 0 0 (rfl : (0 : Nat) = 0)) rfl kin_X4_addWindow_X4 2 (by decide) (by decide +kernel) rfl dX4_addWindow_21 ?_
  refine kgo_pi (v := nI (σ 3 0)) (kc_V (As := []) (rest := []) S hE hS hAb (kw_size l hw 2 (by decide)) (cwV 0 hts gX4_addWindow_Jx4a65c_size_8abf5 rfl rfl rfl (by decide +kernel) ⟨Nat.le_of_ble_eq_true rfl, Nat.le_of_ble_eq_true rfl⟩) (hw.lv 1 2 (by decide : (2 : Nat) < 4)) rfl rfl hl.1 rfl (Nat.le_of_ble_eq_true rfl) dX4_addWindow_24 ⟨Nat.zero_le _, Nat.zero_le _⟩) hS (fun locs hS => ?_)
  refine lv_bipush (v := 12) hx hb dX4_addWindow_27 (by decide) ?_
  refine lv_icmp_lt (tgt := 42) hx hb dX4_addWindow_29 (by decide) (fun _ => ?_) (fun hc => absurd (nI_lt (a := σ 3 0) (b := 12) hn12 (by decide)) hc)
  refine lv_aload_n hx hb dX4_addWindow_42 rfl (lv_at hl 0 rfl) ?_
  refine kr_get (T := TX4) (N := 7) hx hb hts hown hK (hw.lv 0 0 (rfl : (0 : Nat) = 0)) rfl kin_X4_addWindow_X4 2 (by decide) (by decide +kernel) rfl dX4_addWindow_43 ?_
  refine kr_new (T := TX3) (N := 3) (ci := 4) (fs := [.int 0, .int 0, .int 0]) hx hb hts hown hK hS rfl kin_X4_addWindow_X3 tyX3 tyX3_ok (by decide +kernel) (by decide +kernel) (by decide +kernel) (dvX3) (by show 0 + 1 ≤ 1 + kgc (σ 3 0); omega) (by show 0 + 3 ≤ 3 + kgs (σ 3 0); omega) dX4_addWindow_46 (fun H1 hN hnew hS => ?_)
  have hw := hw.new hN
  have hz1 := hN.1
  clear hN
  refine lv_dup hx hb dX4_addWindow_49 rfl ?_
  refine lv_iload_n hx hb dX4_addWindow_50 rfl (lv_at hl 1 rfl) ?_
  refine lv_iload_n hx hb dX4_addWindow_51 rfl (lv_at hl 2 rfl) ?_
  refine lv_iload_n hx hb dX4_addWindow_52 rfl (lv_at hl 2 rfl) ?_
  refine lv_iload_n hx hb dX4_addWindow_53 rfl (lv_at hl 3 rfl) ?_
  refine lv_iadd hx hb dX4_addWindow_54 ?_
  refine kr_top (y := nI (t1 + t2)) (nI_add _ _) ?_
  refine lv_iconst (v := 1) hx hb dX4_addWindow_55 (by decide) ?_
  refine lv_isub hx hb dX4_addWindow_56 ?_
  refine kr_top (y := nI (t1 + t2 - 1)) (ksub (a := 1) (b := t1 + t2) (by omega)) ?_
  refine kgo_v (kc_I (As := [.int (nI i), .int (nI t1), .int (nI (t1 + t2 - 1))]) (rest := [.ref H.size, .ref (ad 1 2)]) S hE hS hAb (ci_window ε l hbz hnew) (cwI 3 hts gX4_addWindow_X3_init rfl rfl rfl (hts (.initialized RX3) (by decide +kernel)) (hts (.methodLink RX4 99 yX3_init) (by decide +kernel)) (hts (.instanceMethod yX3_init) (by decide +kernel)) rfl (by decide +kernel) ⟨Nat.le_of_ble_eq_true rfl, Nat.le_of_ble_eq_true rfl⟩) rfl hl.1 rfl (Nat.le_of_ble_eq_true rfl) dX4_addWindow_57 ⟨by show 0 + 1 + 0 ≤ 1 + kgc (σ 3 0); omega, by show 0 + 3 + 0 ≤ 3 + kgs (σ 3 0); omega⟩) hS (fun q h => hA2 q (Nat.le_of_eq h.symm)) (fun H2 locs hal hz hq hS => ?_)
  have hw := hw.keep (fun k j h => hq _ (by have := hlt k j h; omega) (by have := hlt k j h; omega))
  clear hq
  have hadd := kw_add (i := 2) l hAb hw (by decide) (by show σ 3 0 ≤ 1000000; omega) (by omega) (x := H.size) ⟨4, _, _, hal, rfl, by decide⟩ (by have := hlt 1 2 (by decide : (2 : Nat) < 4); omega)
  have hA3 := hw.a2 (i := 2) (by decide) (fun q h => hA2 q (by omega))
  refine kgo_i (kc_V (As := [.ref H.size]) (rest := []) S hE hS hAb (hadd) (cwV 1 hts gX4_addWindow_Jx4a65c_add_9ea2d rfl rfl rfl (by decide +kernel) ⟨Nat.le_of_ble_eq_true rfl, Nat.le_of_ble_eq_true rfl⟩) (hw.lv 1 2 (by decide : (2 : Nat) < 4)) rfl rfl hl.1 rfl (Nat.le_of_ble_eq_true rfl) dX4_addWindow_60 ⟨by show 0 + 1 + 0 + kgc (σ 3 0) ≤ 1 + kgc (σ 3 0); omega, by show 0 + 3 + 0 + kgs (σ 3 0) ≤ 3 + kgs (σ 3 0); omega⟩) hS hA3 (fun r9 H4 locs hp hz4 hq hS => ?_)
  refine kr_room (c1 := 1 + kgc (σ 3 0)) (s1 := 3 + kgs (σ 3 0)) (by show 0 + 1 + 0 + kgc (σ 3 0) = _; omega) (by show 0 + 3 + 0 + kgs (σ 3 0) = _; omega) ?_
  have hc9 : ∀ i' : Nat, i' < 4 → i' ≠ 2 → (kAddW σ i t1 t2) (i' + 1) 0 = σ (i' + 1) 0 := by
    intro i' hi' hne
    match i', hi', hne with
    | 0, _, _ => simp [kAddW, ku]
    | 1, _, _ => simp [kAddW, ku]
    | 2, _, h => exact absurd rfl h
    | 3, _, _ => simp [kAddW, ku]
  have hf : kW ε A (kadd ad 2 (σ 3 0) (fun _ => H.size) (if σ 3 0 < kcap (σ 3 0) then ad 2 2 else H2.size)) (kAddW σ i t1 t2) H4 := by
    refine kW.grow (i := 2) (b := fun _ => H.size) hw (by decide) rfl (fun h => absurd h (by decide)) (by simp [kAddW, ku]) hc9 ?_ ?_ ?_ ?_ hp.2 hq (fun q h => hA2 q (by omega))
    · intro k j hl h1 h2
      match k, hl, h1, h2 with
      | 0, _, _, _ => simp [kAg, kAddW, ku]
      | 1, hl, h1, _ => exact hc9 j hl (fun h => h1 ⟨rfl, h⟩)
      | 2, hl, _, h2 => exact hc9 j hl.1 (fun h => h2 ⟨rfl, h⟩)
      | 3, _, _, _ => simp [kAg, kAddW, ku]
      | 4, _, _, _ => simp [kAg, kAddW, ku]
      | 5, _, _, _ => simp [kAg, kAddW, ku]
      | 6, _, _, _ => simp [kAg, kAddW, ku]
      | 7, _, _, _ => simp [kAg, kAddW, ku]
      | 8, hl, _, _ =>
        have hj : j ≠ σ 3 0 := kLv_el9 (i := 2) (k := 8) (by decide) rfl hl
        simp [kAg, kAddW, ku, hj]
      | 9, _, _, _ => simp [kAg, kAddW, ku]
    · intro k hk
      have h9k := kow_2 hk
      subst h9k
      refine ⟨?_, hA2 _ (Nat.le_refl _)⟩
      have e1 : kAddW σ i t1 t2 40 (σ 3 0) = i := by simp [kAddW, ku]
      have e2 : kAddW σ i t1 t2 41 (σ 3 0) = t1 := by simp [kAddW, ku]
      have e3 : kAddW σ i t1 t2 42 (σ 3 0) = t1 + t2 - 1 := by simp [kAddW, ku]
      show kat ε H.size (.inr (4, [.int (nI (kAddW σ i t1 t2 40 (σ 3 0))), .int (nI (kAddW σ i t1 t2 41 (σ 3 0))), .int (nI (kAddW σ i t1 t2 42 (σ 3 0)))])) H2
      rw [e1, e2, e3]
      exact hal
    · intro k hk k' j' hl' he
      have := hlt k' j' hl'
      omega
    · intro k k' hk hk' _
      rw [kow_2 hk, kow_2 hk']
  have e0 := kadd_old ad (i := 2) (n := σ 3 0) (fun _ => H.size) (if σ 3 0 < kcap (σ 3 0) then ad 2 2 else H2.size) (k := 0) (j := 0) (by simp) (by simp [kow])
  have e12 := kadd_old ad (i := 2) (n := σ 3 0) (fun _ => H.size) (if σ 3 0 < kcap (σ 3 0) then ad 2 2 else H2.size) (k := 1) (j := 2) (by simp) (by simp [kow])
  have hm0 := hf.lv 0 0 rfl
  have hl0 := hf.lv 1 2 (by decide : (2 : Nat) < 4)
  have hsz := kw_size l hf 2 (by decide)
  simp only [kC] at hm0 hl0
  rw [e0, e12] at hm0
  rw [e12] at hl0 hsz
  refine lv_pop hx hb dX4_addWindow_63 rfl ?_
  refine lv_aload_n hx hb dX4_addWindow_64 rfl (lv_at hl 0 rfl) ?_
  refine kr_get (T := TX4) (N := 7) hx hb hts hown hK hm0 rfl kin_X4_addWindow_X4 2 (by decide) (by decide +kernel) rfl dX4_addWindow_65 ?_
  refine kgo_pi (v := nI (kAddW σ i t1 t2 (2 + 1) 0)) (kc_V (As := []) (rest := []) S hE hS hAb (hsz) (cwV 0 hts gX4_addWindow_Jx4a65c_size_8abf5 rfl rfl rfl (by decide +kernel) ⟨Nat.le_of_ble_eq_true rfl, Nat.le_of_ble_eq_true rfl⟩) hl0 rfl rfl hl.1 rfl (Nat.le_of_ble_eq_true rfl) dX4_addWindow_68 ⟨Nat.le_refl _, Nat.le_refl _⟩) hS (fun locs hS => ?_)
  refine kr_top (y := nI (σ 3 0 + 1)) (by simp [kAddW, ku]) ?_
  refine lv_iconst (v := 1) hx hb dX4_addWindow_71 (by decide) ?_
  refine lv_isub hx hb dX4_addWindow_72 ?_
  refine kend_i S hr hlocks hS ⟨nI_pred _, _, e0, hf⟩ dX4_addWindow_73
