theorem kin_X4_raiseAlarm_X4 : ∀ w ∈ wsX40, w ∈ wsX4_raiseAlarm := by decide +kernel
theorem kin_X4_raiseAlarm_X0 : ∀ w ∈ wsX00, w ∈ wsX4_raiseAlarm := by decide +kernel
theorem kin_X4_raiseAlarm_X1 : ∀ w ∈ wsX10, w ∈ wsX4_raiseAlarm := by decide +kernel
theorem kin_X4_raiseAlarm_Jx4a65c : ∀ w ∈ wsJx4a65c0, w ∈ wsX4_raiseAlarm := by decide +kernel
set_option maxHeartbeats 4000000 in
set_option maxRecDepth 100000 in
theorem cc_raise1 (ε : kEnv) (l : Launch) {A : Nat → Prop} {ad : Nat → Nat → Nat} {σ : kS} {H : Heap} {i : Nat} (hAb : ∀ q, A q → kHi ε q) (hw : kW ε A ad σ H) (hB : kB σ) (hi : i < σ 2 0) (hn5 : σ 4 0 < 51000) (hA2 : ∀ q, H.size ≤ q → A q) (h9 : ad 9 (σ 4 0) = H.size) : kMv ε l yX4_raiseAlarm wsX4_raiseAlarm ({ frames := 7, cells := 1 + kgc (σ 4 0), slots := 3 + kgs (σ 4 0), locals := 206 }) [.ref (ad 0 0), .ref (ad 4 i)] H A (1 + kgc (σ 4 0)) (3 + kgs (σ 4 0)) (fun H' => ∃ ad', ad' 0 0 = ad 0 0 ∧ kW ε A ad' (kRaise σ i) H') := by
  refine kof (cc := cX4_raiseAlarm) (maxL := 2) (ret := none) (by decide) rfl (Nat.le_of_ble_eq_true rfl) ?_
  intro p e s m below meth c ls S hr hlocks hin hH hE hl
  have S : CallFix p m c cX4_raiseAlarm 2 s _ wsX4_raiseAlarm RX4 := S
  have hx := S.1
  have hb := S.2.1
  have hown : s.vm.findClass RX4 = some m.cls := S.2.2.2.1
  have hts := S.2.2.2.2
  have hK := hE.1
  have hS : va_S A s.heap H [] := by rw [hH]; exact va_S.rf
  have hnR := hB.nR
  have hnC := hB.nC
  have hnW := hB.nW
  have hnA := hB.nA
  have hmn := hB.min
  have hl : lv_has ls 2 [(0, .ref (ad 0 0)), (1, .ref (ad 4 i))] := hl
  have hbz : ε.2.2.1 ≤ H.size := hAb _ (hA2 _ (Nat.le_refl _))
  have hlt : ∀ k j, kLv σ k j → ad k j < H.size := fun k j h => va_at.lt (hw.1 k j h).1
  refine lv_aload_n hx hb dX4_raiseAlarm_0 rfl (lv_at hl 0 rfl) ?_
  refine kr_get (T := TX4) (N := 7) hx hb hts hown hK (hw.lv 0 0 (rfl : (0 : Nat) = 0)) rfl kin_X4_raiseAlarm_X4 3 (by decide) (by decide +kernel) rfl dX4_raiseAlarm_1 ?_
  refine kgo_pi (v := nI (σ 4 0)) (kc_V (As := []) (rest := []) S hE hS hAb (kw_size l hw 3 (by decide)) (cwV 0 hts gX4_raiseAlarm_Jx4a65c_size_8abf5 rfl rfl rfl (by decide +kernel) ⟨Nat.le_of_ble_eq_true rfl, Nat.le_of_ble_eq_true rfl⟩) (hw.lv 1 3 (by decide : (3 : Nat) < 4)) rfl rfl hl.1 rfl (Nat.le_of_ble_eq_true rfl) dX4_raiseAlarm_4 ⟨Nat.zero_le _, Nat.zero_le _⟩) hS (fun locs hS => ?_)
  refine lv_ldc (own := RX4) (v := 1000000) hx hb hown (hts (.constant RX4 231 (1000000)) (by decide +kernel)) dX4_raiseAlarm_7 ?_
  refine lv_icmp_ge (tgt := 43) hx hb dX4_raiseAlarm_9 (by decide) (fun hc => absurd hc (nI_ge (a := σ 4 0) (b := 1000000) (by omega) (by decide))) (fun _ => ?_)
  refine lv_aload_n hx hb dX4_raiseAlarm_12 rfl (lv_at hl 1 rfl) ?_
  refine kr_new (T := TX0) (N := 3) (ci := 1) (fs := [.int 0, .int 0, .int 0]) hx hb hts hown hK hS rfl kin_X4_raiseAlarm_X0 tyX0 tyX0_ok (by decide +kernel) (by decide +kernel) (by decide +kernel) (dvX0) (by show 0 + 1 ≤ 1 + kgc (σ 4 0); omega) (by show 0 + 3 ≤ 3 + kgs (σ 4 0); omega) dX4_raiseAlarm_13 (fun H1 hN hnew hS => ?_)
  have hw := hw.new hN
  have hz1 := hN.1
  clear hN
  refine lv_dup hx hb dX4_raiseAlarm_16 rfl ?_
  refine lv_aload_n hx hb dX4_raiseAlarm_17 rfl (lv_at hl 1 rfl) ?_
  refine kr_get (T := TX1) (N := 13) hx hb hts hown hK (hw.lv 4 i hi) rfl kin_X4_raiseAlarm_X1 0 (by decide) (by decide +kernel) rfl dX4_raiseAlarm_18 ?_
  refine lv_aload_n hx hb dX4_raiseAlarm_21 rfl (lv_at hl 0 rfl) ?_
  refine kr_get (T := TX4) (N := 7) hx hb hts hown hK (hw.lv 0 0 (rfl : (0 : Nat) = 0)) rfl kin_X4_raiseAlarm_X4 6 (by decide) (by decide +kernel) rfl dX4_raiseAlarm_22 ?_
  refine kgo_v (kc_I (As := [.int (nI i), .int (nI (σ 0 0))]) (rest := [.ref H.size, .ref (ad 4 i)]) S hE hS hAb (ci_alarm ε l hbz hnew) (cwI 2 hts gX4_raiseAlarm_X0_init rfl rfl rfl (hts (.initialized RX0) (by decide +kernel)) (hts (.methodLink RX4 232 yX0_init) (by decide +kernel)) (hts (.instanceMethod yX0_init) (by decide +kernel)) rfl (by decide +kernel) ⟨Nat.le_of_ble_eq_true rfl, Nat.le_of_ble_eq_true rfl⟩) rfl hl.1 rfl (Nat.le_of_ble_eq_true rfl) dX4_raiseAlarm_25 ⟨by show 0 + 1 + 0 ≤ 1 + kgc (σ 4 0); omega, by show 0 + 3 + 0 ≤ 3 + kgs (σ 4 0); omega⟩) hS (fun q h => hA2 q (Nat.le_of_eq h.symm)) (fun H2 locs hal hz hq hS => ?_)
  have hw := hw.keep (fun k j h => hq _ (by have := hlt k j h; omega) (by have := hlt k j h; omega))
  clear hq
  refine kr_topV (y := va_rf (kop ad (σ 4 0 + 1))) (congrArg Value.ref h9.symm) ?_
  refine kr_put (T := TX1) (N := 13) (v := va_rf (kop ad (σ 4 0 + 1))) (ty := .object "Probeweb$Alarm") hx hb hts hown hK hS (hw.lv 4 i hi) (hw.1 4 i hi).2 rfl kin_X4_raiseAlarm_X1 tyX1 tyX1_ok nmX1 10 (by decide) "Probeweb$Check" (hts (.fieldLink RX4 143 "Probeweb$Check" "openAlarm" "LProbeweb$Alarm;") (by decide +kernel)) (fun _ h => h) rfl (by decide +kernel) (kop_nar _ _) (kop_fit _ _) (Nat.le_of_ble_eq_true rfl) dX4_raiseAlarm_28 (fun H3 locs hU ho hS => ?_)
  have hw := kw_p25 (v := σ 4 0 + 1) hw hi hU ho
  have hal := hU.at hal (by have := hlt 4 i hi; omega)
  have hz3 := hU.1
  clear hU ho
  refine lv_aload_n hx hb dX4_raiseAlarm_31 rfl (lv_at hl 0 rfl) ?_
  refine kr_get (T := TX4) (N := 7) hx hb hts hown hK (hw.lv 0 0 (rfl : (0 : Nat) = 0)) rfl kin_X4_raiseAlarm_X4 3 (by decide) (by decide +kernel) rfl dX4_raiseAlarm_32 ?_
  refine lv_aload_n hx hb dX4_raiseAlarm_35 rfl (lv_at hl 1 rfl) ?_
  refine kr_get (T := TX1) (N := 13) hx hb hts hown hK (hw.lv 4 i (show i < ku σ 25 i (σ 4 0 + 1) 2 0 from hi)) rfl kin_X4_raiseAlarm_X1 10 (by decide) (by decide +kernel) rfl dX4_raiseAlarm_36 ?_
  refine kr_topV (y := .ref H.size) (by rw [ku_s]; exact congrArg Value.ref h9) ?_
  have e4 : ku σ 25 i (σ 4 0 + 1) 4 0 = σ 4 0 := ku_f _ _ _ _ (by decide)
  have hadd := kw_add (i := 3) l hAb hw (by decide) (by rw [e4]; omega) (by omega) (x := H.size) ⟨1, _, _, hal, rfl, by decide⟩ (by have := hlt 1 3 (by decide : (3 : Nat) < 4); omega)
  have hA3 := hw.a2 (i := 3) (by decide) (fun q h => hA2 q (by omega))
  simp only [Nat.reduceAdd, e4] at hadd hA3
  refine kgo_i (kc_V (As := [.ref H.size]) (rest := []) S hE hS hAb (hadd) (cwV 1 hts gX4_raiseAlarm_Jx4a65c_add_9ea2d rfl rfl rfl (by decide +kernel) ⟨Nat.le_of_ble_eq_true rfl, Nat.le_of_ble_eq_true rfl⟩) (hw.lv 1 3 (by decide : (3 : Nat) < 4)) rfl rfl hl.1 rfl (Nat.le_of_ble_eq_true rfl) dX4_raiseAlarm_39 ⟨by show 0 + 1 + 0 + kgc (σ 4 0) ≤ 1 + kgc (σ 4 0); omega, by show 0 + 3 + 0 + kgs (σ 4 0) ≤ 3 + kgs (σ 4 0); omega⟩) hS hA3 (fun r H4 locs hp hz hq hS => ?_)
  refine kr_room (c1 := 1 + kgc (σ 4 0)) (s1 := 3 + kgs (σ 4 0)) (by omega) (by omega) ?_
  refine lv_pop hx hb dX4_raiseAlarm_42 rfl ?_
  have hf : kW ε A (kadd ad 3 (σ 4 0) (fun _ => H.size) (if σ 4 0 < kcap (σ 4 0) then ad 2 3 else H3.size)) (kRaise σ i) H4 := by
    refine kW.grow (σ := ku σ 25 i (σ 4 0 + 1)) (b := fun _ => H.size) hw (by decide) e4 (fun _ => h9) ?_ ?_ ?_ ?_ ?_ ?_ hp.2 hq (fun q h => hA2 q (by omega))
    · exact ku_s _ _ _ _
    · intro i' hi' hne
      match i', hi', hne with
      | 0, _, _ => simp [kRaise, ku]
      | 1, _, _ => simp [kRaise, ku]
      | 2, _, _ => simp [kRaise, ku]
      | 3, _, h => exact absurd rfl h
    · intro k j hl h1 h2
      have hl := kRaise_lv.mp hl
      match k, hl, h1, h2 with
      | 0, _, _, _ => simp [kAg, kRaise, ku]
      | 1, hl, h1, _ =>
        have hj : j ≠ 3 := fun h => h1 ⟨rfl, h⟩
        have hl : j < 4 := hl
        show kRaise σ i (j + 1) 0 = ku σ 25 i (σ 4 0 + 1) (j + 1) 0
        simp only [kRaise, ku]
        rw [if_neg (by omega), if_neg (by omega), if_neg (by omega), if_neg (by omega), if_neg (by omega), if_neg (by omega)]
      | 2, hl, _, h2 =>
        have hj : j ≠ 3 := fun h => h2 ⟨rfl, h⟩
        have hl : j < 4 := hl.1
        show kRaise σ i (j + 1) 0 = ku σ 25 i (σ 4 0 + 1) (j + 1) 0
        simp only [kRaise, ku]
        rw [if_neg (by omega), if_neg (by omega), if_neg (by omega), if_neg (by omega), if_neg (by omega), if_neg (by omega)]
      | 3, _, _, _ => simp [kAg, kRaise, ku]
      | 4, _, _, _ => simp [kAg, kRaise, ku]
      | 5, _, _, _ => simp [kAg, kRaise, ku]
      | 6, _, _, _ => simp [kAg, kRaise, ku]
      | 7, _, _, _ => simp [kAg, kRaise, ku]
      | 8, _, _, _ => simp [kAg, kRaise, ku]
      | 9, hl, _, _ =>
        have hl : j < σ 4 0 := hl
        have hj : j ≠ σ 4 0 := by omega
        simp [kAg, kRaise, ku, hj]
    · intro k hk
      have h9k : k = 9 := by simpa [kow] using hk
      subst h9k
      refine ⟨?_, hA2 _ (Nat.le_refl _)⟩
      have e1 : kRaise σ i 50 (σ 4 0) = i := by simp [kRaise, ku]
      have e2 : kRaise σ i 51 (σ 4 0) = σ 0 0 := by simp [kRaise, ku]
      have e3 : kRaise σ i 52 (σ 4 0) = 0 := by simp [kRaise, ku]
      show kat ε H.size (.inr (1, [.int (nI (kRaise σ i 50 (σ 4 0))), .int (nI (kRaise σ i 51 (σ 4 0))), .int (mI (kRaise σ i 52 (σ 4 0)))])) H3
      rw [e1, e2, e3]
      exact hal
    · intro k hk k' j' hl' he
      have := hlt k' j' (kRaise_lv.mp hl')
      omega
    · intro k k' hk hk' _
      have h1 : k = 9 := by simpa [kow] using hk
      have h2 : k' = 9 := by simpa [kow] using hk'
      rw [h1, h2]
  refine kend_v S hr hlocks hS ⟨_, kadd_old ad _ _ (by simp) (by simp [kow]), hf⟩ dX4_raiseAlarm_43
theorem cc_raise (ε : kEnv) (l : Launch) {A : Nat → Prop} {ad : Nat → Nat → Nat} {σ : kS} {H : Heap} {i : Nat} (hAb : ∀ q, A q → kHi ε q) (hw : kW ε A ad σ H) (hB : kB σ) (hi : i < σ 2 0) (hn5 : σ 4 0 < 51000) (hA2 : ∀ q, H.size ≤ q → A q) : kMv ε l yX4_raiseAlarm wsX4_raiseAlarm ({ frames := 7, cells := 1 + kgc (σ 4 0), slots := 3 + kgs (σ 4 0), locals := 206 }) [.ref (ad 0 0), .ref (ad 4 i)] H A (1 + kgc (σ 4 0)) (3 + kgs (σ 4 0)) (fun H' => ∃ ad', ad' 0 0 = ad 0 0 ∧ kW ε A ad' (kRaise σ i) H') := by
  have e0 : kset ad 9 (σ 4 0) H.size 0 0 = ad 0 0 := if_neg (by simp)
  have e4 : kset ad 9 (σ 4 0) H.size 4 i = ad 4 i := if_neg (by simp)
  have h := cc_raise1 ε l hAb (hw.alarm H.size (fun c hc => (hB.ck c hc).2.2.2.2.2.2)) hB hi hn5 hA2 (if_pos ⟨rfl, rfl⟩)
  rw [e0, e4] at h
  exact h
