theorem kin_X4_passOneMinute_X4 : ∀ w ∈ wsX40, w ∈ wsX4_passOneMinute := by decide +kernel
set_option maxHeartbeats 4000000 in
set_option maxRecDepth 100000 in
theorem cc_minute1 (ε : kEnv) (l : Launch) {A : Nat → Prop} {ad : Nat → Nat → Nat} {σ : kS} {H : Heap} (hAb : ∀ q, A q → kHi ε q) (hw : kW ε A ad σ H) (hB : kB σ) (hm : σ 0 0 < 102400) (hA2 : ∀ q, H.size ≤ q → A q) (hfin : kPass1 σ 4 0 ≤ 51000) : kMv ε l yX4_passOneMinute wsX4_passOneMinute ({ frames := 9, cells := kTc (kPass1 σ 4 0) - kTc (σ 4 0), slots := kTs (kPass1 σ 4 0) - kTs (σ 4 0), locals := 250 }) [.ref (ad 0 0)] H A (kTc (kPass1 σ 4 0) - kTc (σ 4 0)) (kTs (kPass1 σ 4 0) - kTs (σ 4 0)) (fun H' => ∃ ad', ad' 0 0 = ad 0 0 ∧ kW ε A ad' (kPass1 σ) H') := by
  refine kof (cc := cX4_passOneMinute) (maxL := 1) (ret := none) (by decide) rfl (Nat.le_of_ble_eq_true rfl) ?_
  intro p e s m below meth c ls S hr hlocks hin hH hE hl
  have S : CallFix p m c cX4_passOneMinute 1 s _ wsX4_passOneMinute RX4 := S
  have hx := S.1
  have hb := S.2.1
  have hown : s.vm.findClass RX4 = some m.cls := S.2.2.2.1
  have hts := S.2.2.2.2
  have hK := hE.1
  have hS : va_S A s.heap H [] := by rw [hH]; exact va_S.rf
  have hnR := hB.nR
  have hnC := hB.nC
  have hnW := hB.nW
  have hnA := hB.nA
  have hmn := hB.min
  have hl : lv_has ls 1 [(0, .ref (ad 0 0))] := hl
  obtain ⟨p1, p2, p3, p4⟩ := kPass1_pre hB hm
  obtain ⟨-, -, -, -, -, f6, f7, f8⟩ := kPass1_in hB hm hfin
  refine lv_aload_n hx hb dX4_passOneMinute_0 rfl (lv_at hl 0 rfl) ?_
  refine lv_dup hx hb dX4_passOneMinute_1 rfl ?_
  refine kr_get (T := TX4) (N := 7) hx hb hts hown hK (hw.lv 0 0 (rfl : (0 : Nat) = 0)) rfl kin_X4_passOneMinute_X4 6 (by decide) (by decide +kernel) rfl dX4_passOneMinute_2 ?_
  refine lv_iconst (v := 1) hx hb dX4_passOneMinute_5 (by decide) ?_
  refine lv_iadd hx hb dX4_passOneMinute_6 ?_
  refine kr_top (y := nI (σ 0 0 + 1)) (nI_1 _) ?_
  refine kr_put (T := TX4) (N := 7) (v := .int (nI (σ 0 0 + 1))) (ty := .int) hx hb hts hown hK hS (hw.lv 0 0 (rfl : (0 : Nat) = 0)) (hw.1 0 0 (rfl : (0 : Nat) = 0)).2 rfl kin_X4_passOneMinute_X4 tyX4 tyX4_ok nmX4 6 (by decide) "Probeweb" (hts (.fieldLink RX4 32 "Probeweb" "minute" "I") (by decide +kernel)) (fun _ h => h) rfl (by decide +kernel) rfl rfl (Nat.le_of_ble_eq_true rfl) dX4_passOneMinute_7 (fun H1 locs hU ho hS => ?_)
  have hw := kw_p0 (v := σ 0 0 + 1) hw hU ho
  have hA2 : ∀ q, H1.size ≤ q → A q := fun q h => hA2 q (by rw [← hU.1]; exact h)
  clear hU ho
  have hw : kW ε A ad (kMin σ) H1 := hw
  refine lv_aload_n hx hb dX4_passOneMinute_10 rfl (lv_at hl 0 rfl) ?_
  refine kgo_v (kc_V (As := []) (rest := []) S hE hS hAb (cc_makeAll ε l hAb hw p1.1) (cwV 0 hts gX4_passOneMinute_X4_makeProbes rfl rfl rfl (by decide +kernel) ⟨Nat.le_of_ble_eq_true rfl, Nat.le_of_ble_eq_true rfl⟩) (hw.lv 0 0 (rfl : (0 : Nat) = 0)) rfl rfl hl.1 rfl (Nat.le_of_ble_eq_true rfl) dX4_passOneMinute_11 ⟨Nat.zero_le _, Nat.zero_le _⟩) hS (fun _ h => h) (fun H1 locs hw hz hq hS => ?_)
  have hA2 : ∀ q, H1.size ≤ q → A q := fun q h => hA2 q (Nat.le_trans hz h)
  clear hz hq
  refine lv_aload_n hx hb dX4_passOneMinute_14 rfl (lv_at hl 0 rfl) ?_
  refine kgo_v (kc_V (As := []) (rest := []) S hE hS hAb (cc_judgeR ε l hAb hw p2.1) (cwV 0 hts gX4_passOneMinute_X4_judgeRegions rfl rfl rfl (by decide +kernel) ⟨Nat.le_of_ble_eq_true rfl, Nat.le_of_ble_eq_true rfl⟩) (hw.lv 0 0 (rfl : (0 : Nat) = 0)) rfl rfl hl.1 rfl (Nat.le_of_ble_eq_true rfl) dX4_passOneMinute_15 ⟨Nat.zero_le _, Nat.zero_le _⟩) hS (fun _ h => h) (fun H1 locs hw hz hq hS => ?_)
  have hA2 : ∀ q, H1.size ≤ q → A q := fun q h => hA2 q (Nat.le_trans hz h)
  clear hz hq
  refine lv_aload_n hx hb dX4_passOneMinute_18 rfl (lv_at hl 0 rfl) ?_
  refine kgo_v (kc_V (As := []) (rest := []) S hE hS hAb (cc_judgeC ε l hAb hw p3.1) (cwV 0 hts gX4_passOneMinute_X4_judgeChecks rfl rfl rfl (by decide +kernel) ⟨Nat.le_of_ble_eq_true rfl, Nat.le_of_ble_eq_true rfl⟩) (hw.lv 0 0 (rfl : (0 : Nat) = 0)) rfl rfl hl.1 rfl (Nat.le_of_ble_eq_true rfl) dX4_passOneMinute_19 ⟨Nat.zero_le _, Nat.zero_le _⟩) hS (fun _ h => h) (fun H1 locs hw hz hq hS => ?_)
  have hA2 : ∀ q, H1.size ≤ q → A q := fun q h => hA2 q (Nat.le_trans hz h)
  clear hz hq
  have hfin5 : kAls (kJC (kJR (kPrbs (kMin σ)))) 4 0 ≤ 51000 := by rw [f7]; exact hfin
  refine lv_aload_n hx hb dX4_passOneMinute_22 rfl (lv_at hl 0 rfl) ?_
  refine kgo_v (kc_V (As := []) (rest := []) S hE hS hAb (cc_als0 ε l hAb hw p4.1 rfl hA2 hfin5) (cwV 0 hts gX4_passOneMinute_X4_raiseAndCloseAlarms rfl rfl rfl (by decide +kernel) ⟨Nat.le_of_ble_eq_true rfl, Nat.le_of_ble_eq_true rfl⟩) (hw.lv 0 0 (rfl : (0 : Nat) = 0)) rfl rfl hl.1 rfl (Nat.le_of_ble_eq_true rfl) dX4_passOneMinute_23 ⟨by show 0 + 0 + 0 + 0 + (kTc (kAls (kJC (kJR (kPrbs (kMin σ)))) 4 0) - kTc (kJC (kJR (kPrbs (kMin σ))) 4 0)) ≤ kTc (kPass1 σ 4 0) - kTc (σ 4 0); rw [f7, f8]; omega, by show 0 + 0 + 0 + 0 + (kTs (kAls (kJC (kJR (kPrbs (kMin σ)))) 4 0) - kTs (kJC (kJR (kPrbs (kMin σ))) 4 0)) ≤ kTs (kPass1 σ 4 0) - kTs (σ 4 0); rw [f7, f8]; omega⟩) hS (fun _ h => h) (fun H1 locs hp hz hq hS => ?_)
  obtain ⟨ad', e9, hw⟩ := hp
  refine kr_room (c1 := kTc (kPass1 σ 4 0) - kTc (σ 4 0)) (s1 := kTs (kPass1 σ 4 0) - kTs (σ 4 0)) (by rw [f7, f8]; omega) (by rw [f7, f8]; omega) ?_
  have hme := hw.lv 0 0 rfl
  have hcnt := cc_count ε l hAb hw (kAls_in p4.1 hfin5).1
  rw [e9] at hme hcnt
  refine lv_aload_n hx hb dX4_passOneMinute_26 rfl (lv_at hl 0 rfl) ?_
  refine kgo_v (kc_V (As := []) (rest := []) S hE hS hAb (hcnt) (cwV 0 hts gX4_passOneMinute_X4_countMinute rfl rfl rfl (by decide +kernel) ⟨Nat.le_of_ble_eq_true rfl, Nat.le_of_ble_eq_true rfl⟩) hme rfl rfl hl.1 rfl (Nat.le_of_ble_eq_true rfl) dX4_passOneMinute_27 ⟨Nat.le_refl _, Nat.le_refl _⟩) hS (fun _ h => h) (fun H2 locs hw hz hq hS => ?_)
  refine kend_v S hr hlocks hS ⟨ad', e9, hw⟩ dX4_passOneMinute_30
theorem kin_X4_pass_X4 : ∀ w ∈ wsX40, w ∈ wsX4_pass := by decide +kernel
set_option maxHeartbeats 4000000 in
set_option maxRecDepth 100000 in
theorem cc_pass0 (ε : kEnv) (l : Launch) {A : Nat → Prop} {ad : Nat → Nat → Nat} {σ : kS} {H : Heap} {x0 t : Nat} (hAb : ∀ q, A q → kHi ε q) (hw : kW ε A ad σ H) (hB : kB σ) (e0 : ad 0 0 = x0) (ht1 : 1 ≤ t) (ht2 : t ≤ 200) (hm : σ 0 0 + t ≤ 102400) (hA2 : ∀ q, H.size ≤ q → A q) (hfin : kPass t σ 4 0 ≤ 51000) : kMi ε l yX4_pass wsX4_pass ({ frames := 10, cells := kTc (kPass t σ 4 0) - kTc (σ 4 0), slots := kTs (kPass t σ 4 0) - kTs (σ 4 0), locals := 270 }) [.ref x0, .int (nI t)] H A (kTc (kPass t σ 4 0) - kTc (σ 4 0)) (kTs (kPass t σ 4 0) - kTs (σ 4 0)) (fun r H' => r = nI (kPass t σ 4 0 - σ 4 0) ∧ ∃ ad', ad' 0 0 = x0 ∧ kW ε A ad' (kPass t σ) H') := by
  refine kof (cc := cX4_pass) (maxL := 4) (ret := (some .int)) (by decide) rfl (Nat.le_of_ble_eq_true rfl) ?_
  intro p e s m below meth c ls S hr hlocks hin hH hE hl
  have S : CallFix p m c cX4_pass 4 s _ wsX4_pass RX4 := S
  have hx := S.1
  have hb := S.2.1
  have hown : s.vm.findClass RX4 = some m.cls := S.2.2.2.1
  have hts := S.2.2.2.2
  have hK := hE.1
  have hS : va_S A s.heap H [] := by rw [hH]; exact va_S.rf
  have hnR := hB.nR
  have hnC := hB.nC
  have hnW := hB.nW
  have hnA := hB.nA
  have hmn := hB.min
  have hl : lv_has ls 4 [(0, .ref x0), (1, .int (nI t))] := hl
  have hin := kPass_in hB t hm hfin
  refine lv_iload_n hx hb dX4_pass_0 rfl (lv_at hl 1 rfl) ?_
  refine lv_iconst (v := 1) hx hb dX4_pass_1 (by decide) ?_
  refine lv_sipush (v := 200) hx hb dX4_pass_2 (by decide) ?_
  refine kgo_pv (kc_S (As := [.int (nI t), .int 1, .int 200]) (rest := []) S hE hS hAb (cc_rng ε l (nI_nlt (a := t) (b := 1) ht1 (by omega)) (nI_leI (a := t) (b := 200) (by omega) (by decide) |>.mpr ht2)) (va_cwS 3 hts gX4_pass_X4_requireRange rfl rfl rfl (by decide +kernel) ⟨Nat.le_of_ble_eq_true rfl, Nat.le_of_ble_eq_true rfl⟩) rfl hl.1 rfl (Nat.le_of_ble_eq_true rfl) dX4_pass_5 ⟨Nat.zero_le _, Nat.zero_le _⟩) hS (fun locs hS => ?_)
  refine lv_aload_n hx hb dX4_pass_8 rfl (lv_at hl 0 rfl) ?_
  have hm0 := hw.lv 0 0 rfl
  have hsz := kw_size l hw 3 (by decide)
  have hl0 := hw.lv 1 3 (by decide : (3 : Nat) < 4)
  rw [e0] at hm0
  refine kr_get (T := TX4) (N := 7) hx hb hts hown hK hm0 rfl kin_X4_pass_X4 3 (by decide) (by decide +kernel) rfl dX4_pass_9 ?_
  refine kgo_pi (v := nI (σ 4 0)) (kc_V (As := []) (rest := []) S hE hS hAb (hsz) (cwV 0 hts gX4_pass_Jx4a65c_size_8abf5 rfl rfl rfl (by decide +kernel) ⟨Nat.le_of_ble_eq_true rfl, Nat.le_of_ble_eq_true rfl⟩) hl0 rfl rfl hl.1 rfl (Nat.le_of_ble_eq_true rfl) dX4_pass_12 ⟨Nat.zero_le _, Nat.zero_le _⟩) hS (fun locs hS => ?_)
  refine lv_istore_n (lv' := [(2, .int (nI (σ 4 0))), (0, .ref x0), (1, .int (nI t))]) hx hb dX4_pass_15 rfl hl (by decide) rfl (fun ls hl => ?_)
  refine lv_iconst (v := 0) hx hb dX4_pass_16 (by decide) ?_
  refine lv_istore_n (lv' := [(3, .int 0), (2, .int (nI (σ 4 0))), (0, .ref x0), (1, .int (nI t))]) hx hb dX4_pass_17 rfl hl (by decide) rfl (fun ls hl => ?_)
  refine kr_room (c1 := kTc ((kPass 0 σ) 4 0) - kTc (σ 4 0)) (s1 := kTs ((kPass 0 σ) 4 0) - kTs (σ 4 0)) (Nat.sub_self _).symm (Nat.sub_self _).symm ?_
  suffices K : ∀ (n k : Nat) (ad : Nat → Nat → Nat) (H2 : Heap) (locs : List Loc) (ls : Array Slot), k + n = t → kW ε A ad ((kPass k σ)) H2 → ad 0 0 = x0 → (∀ q, H2.size ≤ q → A q) → va_S A s.heap H2 locs → lv_has ls 4 [(3, .int (nI k)), (2, .int (nI (σ 4 0))), (1, .int (nI t)), (0, .ref x0)] → W p l e ({ frames := 10, cells := kTc (kPass t σ 4 0) - kTc (σ 4 0), slots := kTs (kPass t σ 4 0) - kTs (σ 4 0), locals := 270 }) s m [.ref x0, .int (nI t)].toArray below meth c H2 locs (kTc ((kPass k σ) 4 0) - kTc (σ 4 0)) (kTs ((kPass k σ) 4 0) - kTs (σ 4 0)) (MQ below (kQi (fun r H' => r = nI (kPass t σ 4 0 - σ 4 0) ∧ ∃ ad', ad' 0 0 = x0 ∧ kW ε A ad' (kPass t σ) H') A) [.ref x0, .int (nI t)].toArray s (kTc (kPass t σ 4 0) - kTc (σ 4 0)) (kTs (kPass t σ 4 0) - kTs (σ 4 0)) A) (F0 m 18 ls []) from K t 0 _ _ _ _ (Nat.zero_add _) hw e0 hA2 hS (lv_sub hl [0, 1, 3, 2] rfl)
  clear hl hS hw e0 hA2
  intro n
  induction n with
  | zero =>
    intro k ad H2 locs ls hkn hw e0 hA2  hS hl
    have hkN : k = t := hkn
    clear hkn
    subst e0
    refine lv_iload_n hx hb dX4_pass_18 rfl (lv_at hl 0 rfl) ?_
    refine lv_iload_n hx hb dX4_pass_19 rfl (lv_at hl 2 rfl) ?_
    refine lv_icmp_ge (tgt := 33) hx hb dX4_pass_20 (by decide) (fun _ => ?_) (fun hc => absurd (by rw [hkN]; exact Int32.le_refl _) hc)
    subst hkN
    have hBt := hin.1
    refine lv_aload_n hx hb dX4_pass_33 rfl (lv_at hl 3 rfl) ?_
    refine kr_get (T := TX4) (N := 7) hx hb hts hown hK (hw.lv 0 0 (rfl : (0 : Nat) = 0)) rfl kin_X4_pass_X4 3 (by decide) (by decide +kernel) rfl dX4_pass_34 ?_
    refine kgo_pi (v := nI ((kPass k σ) 4 0)) (kc_V (As := []) (rest := []) S hE hS hAb (kw_size l hw 3 (by decide)) (cwV 0 hts gX4_pass_Jx4a65c_size_8abf5 rfl rfl rfl (by decide +kernel) ⟨Nat.le_of_ble_eq_true rfl, Nat.le_of_ble_eq_true rfl⟩) (hw.lv 1 3 (by decide : (3 : Nat) < 4)) rfl rfl hl.1 rfl (Nat.le_of_ble_eq_true rfl) dX4_pass_37 ⟨Nat.le_refl _, Nat.le_refl _⟩) hS (fun locs hS => ?_)
    refine lv_iload_n hx hb dX4_pass_40 rfl (lv_at hl 1 rfl) ?_
    refine lv_isub hx hb dX4_pass_41 ?_
    refine kend_i S hr hlocks hS ⟨ksub hin.2.2.2.2.2, ad, rfl, hw⟩ dX4_pass_42
  | succ n ih =>
    intro k ad H2 locs ls hkn hw e0 hA2  hS hl
    have hlt : k < t := by omega
    subst e0
    have hmo : kPass (k + 1) σ 4 0 ≤ kPass t σ 4 0 := kPass_mono hlt
    have hmo0 : kPass k σ 4 0 ≤ kPass (k + 1) σ 4 0 := kPass_mono (Nat.le_succ k)
    have hk9 := kPass_in hB k (by omega) (by omega)
    have hT1 := kTc_mono hmo
    have hT2 := kTs_mono hmo
    have hT3 := kTc_mono hmo0
    have hT4 := kTs_mono hmo0
    have hT5 := kTc_mono hk9.2.2.2.2.2
    have hT6 := kTs_mono hk9.2.2.2.2.2
    refine lv_iload_n hx hb dX4_pass_18 rfl (lv_at hl 0 rfl) ?_
    refine lv_iload_n hx hb dX4_pass_19 rfl (lv_at hl 2 rfl) ?_
    refine lv_icmp_ge (tgt := 33) hx hb dX4_pass_20 (by decide) (fun hc => absurd hc (nI_ge hlt (by omega))) (fun _ => ?_)
    refine lv_aload_n hx hb dX4_pass_23 rfl (lv_at hl 3 rfl) ?_
    refine kgo_v (kc_V (As := []) (rest := []) S hE hS hAb (cc_minute1 ε l hAb hw hk9.1 (by omega) hA2 (show kPass (k + 1) σ 4 0 ≤ 51000 by omega)) (cwV 0 hts gX4_pass_X4_passOneMinute rfl rfl rfl (by decide +kernel) ⟨Nat.le_of_ble_eq_true rfl, Nat.le_of_ble_eq_true rfl⟩) (hw.lv 0 0 (rfl : (0 : Nat) = 0)) rfl rfl hl.1 rfl (Nat.le_of_ble_eq_true rfl) dX4_pass_24 ⟨by show kTc (kPass k σ 4 0) - kTc (σ 4 0) + (kTc (kPass (k + 1) σ 4 0) - kTc (kPass k σ 4 0)) ≤ kTc (kPass t σ 4 0) - kTc (σ 4 0); omega, by show kTs (kPass k σ 4 0) - kTs (σ 4 0) + (kTs (kPass (k + 1) σ 4 0) - kTs (kPass k σ 4 0)) ≤ kTs (kPass t σ 4 0) - kTs (σ 4 0); omega⟩) hS (fun _ h => h) (fun H1 locs hp hz hq hS => ?_)
    obtain ⟨ad', h00, hw⟩ := hp
    refine kr_room (c1 := kTc ((kPass (k + 1) σ) 4 0) - kTc (σ 4 0)) (s1 := kTs ((kPass (k + 1) σ) 4 0) - kTs (σ 4 0)) (by show kTc (kPass k σ 4 0) - kTc (σ 4 0) + (kTc (kPass (k + 1) σ 4 0) - kTc (kPass k σ 4 0)) = _; omega) (by show kTs (kPass k σ 4 0) - kTs (σ 4 0) + (kTs (kPass (k + 1) σ 4 0) - kTs (kPass k σ 4 0)) = _; omega) ?_
    refine lv_iinc (v := nI (k + 1)) (lv' := [(3, .int (nI (k + 1))), (2, .int (nI (σ 4 0))), (1, .int (nI t)), (0, .ref (ad 0 0))]) hx hb dX4_pass_27 hl (k := 0) rfl (nI_1 k) (by decide) rfl (fun ls hl => ?_)
    refine lv_goto (tgt := 18) hx hb dX4_pass_30 (by decide) ?_
    exact ih (k + 1) _ _ _ _ (by omega) hw h00 (fun q h => hA2 q (Nat.le_trans hz h)) hS (lv_sub hl [0, 1, 2, 3] rfl)
