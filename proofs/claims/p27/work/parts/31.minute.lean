theorem kin_X4_judgeRegions_X4 : ∀ w ∈ wsX40, w ∈ wsX4_judgeRegions := by decide +kernel
set_option maxHeartbeats 4000000 in
set_option maxRecDepth 100000 in
theorem cc_judgeR (ε : kEnv) (l : Launch) {A : Nat → Prop} {ad : Nat → Nat → Nat} {σ : kS} {H : Heap} (hAb : ∀ q, A q → kHi ε q) (hw : kW ε A ad σ H) (hB : kB σ) : kMv ε l yX4_judgeRegions wsX4_judgeRegions ({ frames := 4, cells := 0, slots := 0, locals := 92 }) [.ref (ad 0 0)] H A (0) (0) (fun H' => kW ε A ad (kJR σ) H') := by
  refine kof (cc := cX4_judgeRegions) (maxL := 2) (ret := none) (by decide) rfl (Nat.le_of_ble_eq_true rfl) ?_
  intro p e s m below meth c ls S hr hlocks hin hH hE hl
  have S : CallFix p m c cX4_judgeRegions 2 s _ wsX4_judgeRegions RX4 := S
  have hx := S.1
  have hb := S.2.1
  have hown : s.vm.findClass RX4 = some m.cls := S.2.2.2.1
  have hts := S.2.2.2.2
  have hK := hE.1
  have hS : va_S A s.heap H [] := by rw [hH]; exact va_S.rf
  have hnR := hB.nR
  have hnC := hB.nC
  have hnW := hB.nW
  have hnA := hB.nA
  have hmn := hB.min
  have hl : lv_has ls 2 [(0, .ref (ad 0 0))] := hl
  refine lv_iconst (v := 0) hx hb dX4_judgeRegions_0 (by decide) ?_
  refine lv_istore_n (lv' := [(1, .int 0), (0, .ref (ad 0 0))]) hx hb dX4_judgeRegions_1 rfl hl (by decide) rfl (fun ls hl => ?_)
  suffices K : ∀ (n k : Nat) (H2 : Heap) (locs : List Loc) (ls : Array Slot), k + n = σ 1 0 → kW ε A ad ((kFor (fun r τ => ku τ 15 0 (kwr (τ 15 0) r (kBadv τ r))) k σ)) H2 → kPin [15] σ (kFor (fun r τ => ku τ 15 0 (kwr (τ 15 0) r (kBadv τ r))) k σ) → va_S A s.heap H2 locs → lv_has ls 2 [(1, .int (nI k)), (0, .ref (ad 0 0))] → W p l e ({ frames := 4, cells := 0, slots := 0, locals := 92 }) s m [.ref (ad 0 0)].toArray below meth c H2 locs 0 0 (MQ below (kQv (fun H' => kW ε A ad (kJR σ) H') A) [.ref (ad 0 0)].toArray s (0) (0) A) (F0 m 2 ls []) from K (σ 1 0) 0 _ _ _ (Nat.zero_add _) hw (kPin.rf hB) hS (lv_sub hl [0, 1] rfl)
  clear hl hS hw
  intro n
  induction n with
  | zero =>
    intro k H2 locs ls hkn hw hin hS hl
    have hkN : k = σ 1 0 := hkn
    clear hkn
    obtain ⟨τ, τe⟩ : ∃ z : kS, z = ((kFor (fun r τ => ku τ 15 0 (kwr (τ 15 0) r (kBadv τ r))) k σ)) := ⟨_, rfl⟩
    rw [← τe] at hw hin
    have hBt := hin.1
    have e1 : τ 1 0 = σ 1 0 := hin.2 1 0 (by decide)
    have e2 : τ 2 0 = σ 2 0 := hin.2 2 0 (by decide)
    have e3 : τ 3 0 = σ 3 0 := hin.2 3 0 (by decide)
    refine lv_iload_n hx hb dX4_judgeRegions_2 rfl (lv_at hl 0 rfl) ?_
    refine lv_aload_n hx hb dX4_judgeRegions_3 rfl (lv_at hl 1 rfl) ?_
    refine kr_get (T := TX4) (N := 7) hx hb hts hown hK (hw.lv 0 0 (rfl : (0 : Nat) = 0)) rfl kin_X4_judgeRegions_X4 0 (by decide) (by decide +kernel) rfl dX4_judgeRegions_4 ?_
    refine kgo_pi (v := nI (τ 1 0)) (kc_V (As := []) (rest := [.int (nI k)]) S hE hS hAb (kw_size l hw 0 (by decide)) (cwV 0 hts gX4_judgeRegions_Jx4a65c_size_8abf5 rfl rfl rfl (by decide +kernel) ⟨Nat.le_of_ble_eq_true rfl, Nat.le_of_ble_eq_true rfl⟩) (hw.lv 1 0 (by decide : (0 : Nat) < 4)) rfl rfl hl.1 rfl (Nat.le_of_ble_eq_true rfl) dX4_judgeRegions_7 ⟨Nat.zero_le _, Nat.zero_le _⟩) hS (fun locs hS => ?_)
    refine kr_top (y := nI (σ 1 0)) (by rw [e1]) ?_
    refine lv_icmp_ge (tgt := 36) hx hb dX4_judgeRegions_10 (by decide) (fun _ => ?_) (fun hc => absurd (by rw [hkN]; exact Int32.le_refl _) hc)
    refine kend_v S hr hlocks hS (show kW ε A ad (kJR σ) _ by unfold kJR; rw [← hkN, ← τe]; exact hw) dX4_judgeRegions_36
  | succ n ih =>
    intro k H2 locs ls hkn hw hin hS hl
    have hlt : k < σ 1 0 := by omega
    obtain ⟨τ, τe⟩ : ∃ z : kS, z = ((kFor (fun r τ => ku τ 15 0 (kwr (τ 15 0) r (kBadv τ r))) k σ)) := ⟨_, rfl⟩
    rw [← τe] at hw hin
    have hBt := hin.1
    have e1 : τ 1 0 = σ 1 0 := hin.2 1 0 (by decide)
    have e2 : τ 2 0 = σ 2 0 := hin.2 2 0 (by decide)
    have e3 : τ 3 0 = σ 3 0 := hin.2 3 0 (by decide)
    have h6 : k < 6 := by omega
    refine lv_iload_n hx hb dX4_judgeRegions_2 rfl (lv_at hl 0 rfl) ?_
    refine lv_aload_n hx hb dX4_judgeRegions_3 rfl (lv_at hl 1 rfl) ?_
    refine kr_get (T := TX4) (N := 7) hx hb hts hown hK (hw.lv 0 0 (rfl : (0 : Nat) = 0)) rfl kin_X4_judgeRegions_X4 0 (by decide) (by decide +kernel) rfl dX4_judgeRegions_4 ?_
    refine kgo_pi (v := nI (τ 1 0)) (kc_V (As := []) (rest := [.int (nI k)]) S hE hS hAb (kw_size l hw 0 (by decide)) (cwV 0 hts gX4_judgeRegions_Jx4a65c_size_8abf5 rfl rfl rfl (by decide +kernel) ⟨Nat.le_of_ble_eq_true rfl, Nat.le_of_ble_eq_true rfl⟩) (hw.lv 1 0 (by decide : (0 : Nat) < 4)) rfl rfl hl.1 rfl (Nat.le_of_ble_eq_true rfl) dX4_judgeRegions_7 ⟨Nat.zero_le _, Nat.zero_le _⟩) hS (fun locs hS => ?_)
    refine kr_top (y := nI (σ 1 0)) (by rw [e1]) ?_
    refine lv_icmp_ge (tgt := 36) hx hb dX4_judgeRegions_10 (by decide) (fun hc => absurd hc (nI_ge hlt (by omega))) (fun _ => ?_)
    refine lv_aload_n hx hb dX4_judgeRegions_13 rfl (lv_at hl 1 rfl) ?_
    refine lv_aload_n hx hb dX4_judgeRegions_14 rfl (lv_at hl 1 rfl) ?_
    refine kr_get (T := TX4) (N := 7) hx hb hts hown hK (hw.lv 0 0 (rfl : (0 : Nat) = 0)) rfl kin_X4_judgeRegions_X4 5 (by decide) (by decide +kernel) rfl dX4_judgeRegions_15 ?_
    refine lv_iload_n hx hb dX4_judgeRegions_18 rfl (lv_at hl 0 rfl) ?_
    refine lv_aload_n hx hb dX4_judgeRegions_19 rfl (lv_at hl 1 rfl) ?_
    refine lv_iload_n hx hb dX4_judgeRegions_20 rfl (lv_at hl 0 rfl) ?_
    refine kgo_pi (v := bI (kBadv τ k)) (kc_V (As := [.int (nI k)]) (rest := [.int (nI k), .int (nI (τ 15 0)), .ref (ad 0 0)]) S hE hS hAb (cc_votesBad ε l hw hBt h6) (cwV 1 hts gX4_judgeRegions_X4_votesAreBad rfl rfl rfl (by decide +kernel) ⟨Nat.le_of_ble_eq_true rfl, Nat.le_of_ble_eq_true rfl⟩) (hw.lv 0 0 (rfl : (0 : Nat) = 0)) rfl rfl hl.1 rfl (Nat.le_of_ble_eq_true rfl) dX4_judgeRegions_21 ⟨Nat.zero_le _, Nat.zero_le _⟩) hS (fun locs hS => ?_)
    refine kgo_pi (v := nI (kwr (τ 15 0) k (kBadv τ k))) (kc_S (As := [.int (nI (τ 15 0)), .int (nI k), .int (bI (kBadv τ k))]) (rest := [.ref (ad 0 0)]) S hE hS hAb (cc_with ε l (b := kBadv τ k) hBt.bad h6) (va_cwS 3 hts gX4_judgeRegions_X4_withRegion rfl rfl rfl (by decide +kernel) ⟨Nat.le_of_ble_eq_true rfl, Nat.le_of_ble_eq_true rfl⟩) rfl hl.1 rfl (Nat.le_of_ble_eq_true rfl) dX4_judgeRegions_24 ⟨Nat.zero_le _, Nat.zero_le _⟩) hS (fun locs hS => ?_)
    refine kr_put (T := TX4) (N := 7) (v := .int (nI (kwr (τ 15 0) k (kBadv τ k)))) (ty := .int) hx hb hts hown hK hS (hw.lv 0 0 (rfl : (0 : Nat) = 0)) (hw.1 0 0 (rfl : (0 : Nat) = 0)).2 rfl kin_X4_judgeRegions_X4 tyX4 tyX4_ok nmX4 5 (by decide) "Probeweb" (hts (.fieldLink RX4 29 "Probeweb" "badRegions" "I") (by decide +kernel)) (fun _ h => h) rfl (by decide +kernel) rfl rfl (Nat.le_of_ble_eq_true rfl) dX4_judgeRegions_27 (fun H1 locs hU ho hS => ?_)
    have hw := kw_p15 (v := kwr (τ 15 0) k (kBadv τ k)) hw hU ho
    clear hU ho
    refine lv_iinc (v := nI (k + 1)) (lv' := [(1, .int (nI (k + 1))), (0, .ref (ad 0 0))]) hx hb dX4_judgeRegions_30 hl (k := 0) rfl (nI_1 k) (by decide) rfl (fun ls hl => ?_)
    refine lv_goto (tgt := 2) hx hb dX4_judgeRegions_33 (by decide) ?_
    have hin := kJR_in hin hlt (kBadv τ k)
    subst τe
    exact ih (k + 1) _ _ _ (by omega) hw (hin) hS (lv_sub hl [0, 1] rfl)
theorem kin_X4_judgeChecks_X4 : ∀ w ∈ wsX40, w ∈ wsX4_judgeChecks := by decide +kernel
set_option maxHeartbeats 4000000 in
set_option maxRecDepth 100000 in
theorem cc_judgeC (ε : kEnv) (l : Launch) {A : Nat → Prop} {ad : Nat → Nat → Nat} {σ : kS} {H : Heap} (hAb : ∀ q, A q → kHi ε q) (hw : kW ε A ad σ H) (hB : kB σ) : kMv ε l yX4_judgeChecks wsX4_judgeChecks ({ frames := 4, cells := 0, slots := 0, locals := 92 }) [.ref (ad 0 0)] H A (0) (0) (fun H' => kW ε A ad (kJC σ) H') := by
  refine kof (cc := cX4_judgeChecks) (maxL := 3) (ret := none) (by decide) rfl (Nat.le_of_ble_eq_true rfl) ?_
  intro p e s m below meth c ls S hr hlocks hin hH hE hl
  have S : CallFix p m c cX4_judgeChecks 3 s _ wsX4_judgeChecks RX4 := S
  have hx := S.1
  have hb := S.2.1
  have hown : s.vm.findClass RX4 = some m.cls := S.2.2.2.1
  have hts := S.2.2.2.2
  have hK := hE.1
  have hS : va_S A s.heap H [] := by rw [hH]; exact va_S.rf
  have hnR := hB.nR
  have hnC := hB.nC
  have hnW := hB.nW
  have hnA := hB.nA
  have hmn := hB.min
  have hl : lv_has ls 3 [(0, .ref (ad 0 0))] := hl
  refine lv_iconst (v := 0) hx hb dX4_judgeChecks_0 (by decide) ?_
  refine lv_istore_n (lv' := [(1, .int 0), (0, .ref (ad 0 0))]) hx hb dX4_judgeChecks_1 rfl hl (by decide) rfl (fun ls hl => ?_)
  suffices K : ∀ (n k : Nat) (H2 : Heap) (locs : List Loc) (ls : Array Slot), k + n = σ 2 0 → kW ε A ad ((kFor (fun c τ => ku τ 24 c (kVerd τ c)) k σ)) H2 → kPin [24] σ (kFor (fun c τ => ku τ 24 c (kVerd τ c)) k σ) → va_S A s.heap H2 locs → lv_has ls 3 [(1, .int (nI k)), (0, .ref (ad 0 0))] → W p l e ({ frames := 4, cells := 0, slots := 0, locals := 92 }) s m [.ref (ad 0 0)].toArray below meth c H2 locs 0 0 (MQ below (kQv (fun H' => kW ε A ad (kJC σ) H') A) [.ref (ad 0 0)].toArray s (0) (0) A) (F0 m 2 ls []) from K (σ 2 0) 0 _ _ _ (Nat.zero_add _) hw (kPin.rf hB) hS (lv_sub hl [0, 1] rfl)
  clear hl hS hw
  intro n
  induction n with
  | zero =>
    intro k H2 locs ls hkn hw hin hS hl
    have hkN : k = σ 2 0 := hkn
    clear hkn
    obtain ⟨τ, τe⟩ : ∃ z : kS, z = ((kFor (fun c τ => ku τ 24 c (kVerd τ c)) k σ)) := ⟨_, rfl⟩
    rw [← τe] at hw hin
    have hBt := hin.1
    have e1 : τ 1 0 = σ 1 0 := hin.2 1 0 (by decide)
    have e2 : τ 2 0 = σ 2 0 := hin.2 2 0 (by decide)
    have e3 : τ 3 0 = σ 3 0 := hin.2 3 0 (by decide)
    refine lv_iload_n hx hb dX4_judgeChecks_2 rfl (lv_at hl 0 rfl) ?_
    refine lv_aload_n hx hb dX4_judgeChecks_3 rfl (lv_at hl 1 rfl) ?_
    refine kr_get (T := TX4) (N := 7) hx hb hts hown hK (hw.lv 0 0 (rfl : (0 : Nat) = 0)) rfl kin_X4_judgeChecks_X4 1 (by decide) (by decide +kernel) rfl dX4_judgeChecks_4 ?_
    refine kgo_pi (v := nI (τ 2 0)) (kc_V (As := []) (rest := [.int (nI k)]) S hE hS hAb (kw_size l hw 1 (by decide)) (cwV 0 hts gX4_judgeChecks_Jx4a65c_size_8abf5 rfl rfl rfl (by decide +kernel) ⟨Nat.le_of_ble_eq_true rfl, Nat.le_of_ble_eq_true rfl⟩) (hw.lv 1 1 (by decide : (1 : Nat) < 4)) rfl rfl hl.1 rfl (Nat.le_of_ble_eq_true rfl) dX4_judgeChecks_7 ⟨Nat.zero_le _, Nat.zero_le _⟩) hS (fun locs hS => ?_)
    refine kr_top (y := nI (σ 2 0)) (by rw [e2]) ?_
    refine lv_icmp_ge (tgt := 40) hx hb dX4_judgeChecks_10 (by decide) (fun _ => ?_) (fun hc => absurd (by rw [hkN]; exact Int32.le_refl _) hc)
    refine kend_v S hr hlocks hS (show kW ε A ad (kJC σ) _ by unfold kJC; rw [← hkN, ← τe]; exact hw) dX4_judgeChecks_40
  | succ n ih =>
    intro k H2 locs ls hkn hw hin hS hl
    have hlt : k < σ 2 0 := by omega
    obtain ⟨τ, τe⟩ : ∃ z : kS, z = ((kFor (fun c τ => ku τ 24 c (kVerd τ c)) k σ)) := ⟨_, rfl⟩
    rw [← τe] at hw hin
    have hBt := hin.1
    have e1 : τ 1 0 = σ 1 0 := hin.2 1 0 (by decide)
    have e2 : τ 2 0 = σ 2 0 := hin.2 2 0 (by decide)
    have e3 : τ 3 0 = σ 3 0 := hin.2 3 0 (by decide)
    refine lv_iload_n hx hb dX4_judgeChecks_2 rfl (lv_at hl 0 rfl) ?_
    refine lv_aload_n hx hb dX4_judgeChecks_3 rfl (lv_at hl 1 rfl) ?_
    refine kr_get (T := TX4) (N := 7) hx hb hts hown hK (hw.lv 0 0 (rfl : (0 : Nat) = 0)) rfl kin_X4_judgeChecks_X4 1 (by decide) (by decide +kernel) rfl dX4_judgeChecks_4 ?_
    refine kgo_pi (v := nI (τ 2 0)) (kc_V (As := []) (rest := [.int (nI k)]) S hE hS hAb (kw_size l hw 1 (by decide)) (cwV 0 hts gX4_judgeChecks_Jx4a65c_size_8abf5 rfl rfl rfl (by decide +kernel) ⟨Nat.le_of_ble_eq_true rfl, Nat.le_of_ble_eq_true rfl⟩) (hw.lv 1 1 (by decide : (1 : Nat) < 4)) rfl rfl hl.1 rfl (Nat.le_of_ble_eq_true rfl) dX4_judgeChecks_7 ⟨Nat.zero_le _, Nat.zero_le _⟩) hS (fun locs hS => ?_)
    refine kr_top (y := nI (σ 2 0)) (by rw [e2]) ?_
    refine lv_icmp_ge (tgt := 40) hx hb dX4_judgeChecks_10 (by decide) (fun hc => absurd hc (nI_ge hlt (by omega))) (fun _ => ?_)
    have hk : k < τ 2 0 := by omega
    refine lv_aload_n hx hb dX4_judgeChecks_13 rfl (lv_at hl 1 rfl) ?_
    refine kr_get (T := TX4) (N := 7) hx hb hts hown hK (hw.lv 0 0 (rfl : (0 : Nat) = 0)) rfl kin_X4_judgeChecks_X4 1 (by decide) (by decide +kernel) rfl dX4_judgeChecks_14 ?_
    refine lv_iload_n hx hb dX4_judgeChecks_17 rfl (lv_at hl 0 rfl) ?_
    refine kgo_pr (v := ad 4 k) (kc_V (As := [.int (nI k)]) (rest := []) S hE hS hAb (kw_get l hw hBt 1 (by decide) (j := k) (x := ad 4 k) hk rfl) (cwV 1 hts gX4_judgeChecks_Jx4a65c_get_915e3 rfl rfl rfl (by decide +kernel) ⟨Nat.le_of_ble_eq_true rfl, Nat.le_of_ble_eq_true rfl⟩) (hw.lv 1 1 (by decide : (1 : Nat) < 4)) rfl rfl hl.1 rfl (Nat.le_of_ble_eq_true rfl) dX4_judgeChecks_18 ⟨Nat.zero_le _, Nat.zero_le _⟩) hS (fun locs hS => ?_)
    refine kr_cast (T := TX1) (N := 13) hx hb hts hown hK (hw.lv 4 k hk) rfl (by decide +kernel) dX4_judgeChecks_21 ?_
    refine lv_astore_n (lv' := [(2, .ref (ad 4 k)), (1, .int (nI k)), (0, .ref (ad 0 0))]) hx hb dX4_judgeChecks_24 rfl hl (by decide) rfl (fun ls hl => ?_)
    refine lv_aload_n hx hb dX4_judgeChecks_25 rfl (lv_at hl 0 rfl) ?_
    refine lv_aload_n hx hb dX4_judgeChecks_26 rfl (lv_at hl 2 rfl) ?_
    refine lv_aload_n hx hb dX4_judgeChecks_27 rfl (lv_at hl 0 rfl) ?_
    refine kgo_pi (v := nI (kTrm τ k (τ 1 0))) (kc_V (As := [.ref (ad 4 k)]) (rest := [.ref (ad 4 k)]) S hE hS hAb (cc_trusted ε l hw hBt hk) (cwV 1 hts gX4_judgeChecks_X4_trustedRegions rfl rfl rfl (by decide +kernel) ⟨Nat.le_of_ble_eq_true rfl, Nat.le_of_ble_eq_true rfl⟩) (hw.lv 0 0 (rfl : (0 : Nat) = 0)) rfl rfl hl.1 rfl (Nat.le_of_ble_eq_true rfl) dX4_judgeChecks_28 ⟨Nat.zero_le _, Nat.zero_le _⟩) hS (fun locs hS => ?_)
    refine kgo_v (kc_V (As := [.int (nI (kTrm τ k (τ 1 0)))]) (rest := []) S hE hS hAb (cc_judge ε l hAb hw hBt hk (kTrm_lt τ k (τ 1 0) (by omega))) (cwV 1 hts gX4_judgeChecks_X1_judge rfl rfl rfl (by decide +kernel) ⟨Nat.le_of_ble_eq_true rfl, Nat.le_of_ble_eq_true rfl⟩) (hw.lv 4 k hk) rfl rfl hl.1 rfl (Nat.le_of_ble_eq_true rfl) dX4_judgeChecks_31 ⟨Nat.zero_le _, Nat.zero_le _⟩) hS (fun _ h => h) (fun H1 locs hw hz hq hS => ?_)
    have hw : kW ε A ad (ku τ 24 k (kVerd τ k)) H1 := hw
    refine lv_iinc (v := nI (k + 1)) (lv' := [(1, .int (nI (k + 1))), (2, .ref (ad 4 k)), (0, .ref (ad 0 0))]) hx hb dX4_judgeChecks_34 hl (k := 1) rfl (nI_1 k) (by decide) rfl (fun ls hl => ?_)
    refine lv_goto (tgt := 2) hx hb dX4_judgeChecks_37 (by decide) ?_
    have hin := kJC_in hin k
    subst τe
    exact ih (k + 1) _ _ _ (by omega) hw (hin) hS (lv_sub hl [0, 2] rfl)
theorem kin_X4_makeProbe_X4 : ∀ w ∈ wsX40, w ∈ wsX4_makeProbe := by decide +kernel
theorem kin_X4_makeProbe_X1 : ∀ w ∈ wsX10, w ∈ wsX4_makeProbe := by decide +kernel
theorem kin_X4_makeProbe_X2 : ∀ w ∈ wsX20, w ∈ wsX4_makeProbe := by decide +kernel
set_option maxHeartbeats 4000000 in
set_option maxRecDepth 100000 in
theorem cc_make (ε : kEnv) (l : Launch) {A : Nat → Prop} {ad : Nat → Nat → Nat} {σ : kS} {H : Heap} {i r : Nat} (hAb : ∀ q, A q → kHi ε q) (hw : kW ε A ad σ H) (hB : kB σ) (hi : i < σ 2 0) (hr0 : r < σ 1 0) : kMv ε l yX4_makeProbe wsX4_makeProbe ({ frames := 2, cells := 0, slots := 0, locals := 43 }) [.ref (ad 0 0), .ref (ad 4 i), .ref (ad 3 r)] H A (0) (0) (fun H' => kW ε A ad (kMake σ i r) H') := by
  refine kof (cc := cX4_makeProbe) (maxL := 3) (ret := none) (by decide) rfl (Nat.le_of_ble_eq_true rfl) ?_
  intro p e s m below meth c ls S hr hlocks hin hH hE hl
  have S : CallFix p m c cX4_makeProbe 3 s _ wsX4_makeProbe RX4 := S
  have hx := S.1
  have hb := S.2.1
  have hown : s.vm.findClass RX4 = some m.cls := S.2.2.2.1
  have hts := S.2.2.2.2
  have hK := hE.1
  have hS : va_S A s.heap H [] := by rw [hH]; exact va_S.rf
  have hnR := hB.nR
  have hnC := hB.nC
  have hnW := hB.nW
  have hnA := hB.nA
  have hmn := hB.min
  have hl : lv_has ls 3 [(0, .ref (ad 0 0)), (1, .ref (ad 4 i)), (2, .ref (ad 3 r))] := hl
  refine lv_aload_n hx hb dX4_makeProbe_0 rfl (lv_at hl 2 rfl) ?_
  refine lv_dup hx hb dX4_makeProbe_1 rfl ?_
  refine kr_get (T := TX2) (N := 4) hx hb hts hown hK (hw.lv 3 r hr0) rfl kin_X4_makeProbe_X2 2 (by decide) (by decide +kernel) rfl dX4_makeProbe_2 ?_
  refine lv_iconst (v := 1) hx hb dX4_makeProbe_5 (by decide) ?_
  refine lv_iadd hx hb dX4_makeProbe_6 ?_
  refine kr_top (y := nI (σ 12 r + 1)) (nI_1 _) ?_
  refine kr_put (T := TX2) (N := 4) (v := .int (nI (σ 12 r + 1))) (ty := .int) hx hb hts hown hK hS (hw.lv 3 r hr0) (hw.1 3 r hr0).2 rfl kin_X4_makeProbe_X2 tyX2 tyX2_ok nmX2 2 (by decide) "Probeweb$Region" (hts (.fieldLink RX4 130 "Probeweb$Region" "probesMade" "I") (by decide +kernel)) (fun _ h => h) rfl (by decide +kernel) rfl rfl (Nat.le_of_ble_eq_true rfl) dX4_makeProbe_7 (fun H1 locs hU ho hS => ?_)
  have hw := kw_p12 (v := σ 12 r + 1) hw hr0 hU ho
  clear hU ho
  have hB1 := kB_p12 (j := r) (v := σ 12 r + 1) hB
  have hf : kfail (ku σ 12 r (σ 12 r + 1)) i r = kfail σ i r := by simp [kfail, ku]
  refine lv_aload_n hx hb dX4_makeProbe_10 rfl (lv_at hl 0 rfl) ?_
  refine lv_aload_n hx hb dX4_makeProbe_11 rfl (lv_at hl 1 rfl) ?_
  refine lv_aload_n hx hb dX4_makeProbe_12 rfl (lv_at hl 2 rfl) ?_
  refine kgo_pi (v := bI (kfail (ku σ 12 r (σ 12 r + 1)) i r)) (kc_V (As := [.ref (ad 4 i), .ref (ad 3 r)]) (rest := []) S hE hS hAb (cc_wouldFail ε l hw hB1 (show i < ku σ 12 r (σ 12 r + 1) 2 0 from hi) (show r < ku σ 12 r (σ 12 r + 1) 1 0 from hr0)) (cwV 2 hts gX4_makeProbe_X4_wouldFail rfl rfl rfl (by decide +kernel) ⟨Nat.le_of_ble_eq_true rfl, Nat.le_of_ble_eq_true rfl⟩) (hw.lv 0 0 (rfl : (0 : Nat) = 0)) rfl rfl hl.1 rfl (Nat.le_of_ble_eq_true rfl) dX4_makeProbe_13 ⟨Nat.zero_le _, Nat.zero_le _⟩) hS (fun locs hS => ?_)
  refine kr_top (y := bI (kfail σ i r)) (by rw [hf]) ?_
  refine lv_if_eq (tgt := 44) hx hb dX4_makeProbe_16 (by decide) (fun hc => ?_) (fun hc => ?_)
  · refine lv_aload_n hx hb dX4_makeProbe_44 rfl (lv_at hl 1 rfl) ?_
    refine lv_aload_n hx hb dX4_makeProbe_45 rfl (lv_at hl 2 rfl) ?_
    refine kr_get (T := TX2) (N := 4) hx hb hts hown hK (hw.lv 3 r hr0) rfl kin_X4_makeProbe_X2 0 (by decide) (by decide +kernel) rfl dX4_makeProbe_46 ?_
    refine kgo_v (kc_V (As := [.int (nI r)]) (rest := []) S hE hS hAb (cc_takeS ε l hAb hw hB1 (show i < ku σ 12 r (σ 12 r + 1) 2 0 from hi) (hB.r6 hr0)) (cwV 1 hts gX4_makeProbe_X1_takeSuccess rfl rfl rfl (by decide +kernel) ⟨Nat.le_of_ble_eq_true rfl, Nat.le_of_ble_eq_true rfl⟩) (hw.lv 4 i hi) rfl rfl hl.1 rfl (Nat.le_of_ble_eq_true rfl) dX4_makeProbe_49 ⟨Nat.zero_le _, Nat.zero_le _⟩) hS (fun _ h => h) (fun H1 locs hw hz hq hS => ?_)
    have he : kMake σ i r = kTakeS (ku σ 12 r (σ 12 r + 1)) i r := by unfold kMake; rw [bI_eq0.mp hc]; rfl
    rw [← he] at hw
    refine kend_v S hr hlocks hS hw dX4_makeProbe_52
  · refine lv_aload_n hx hb dX4_makeProbe_19 rfl (lv_at hl 2 rfl) ?_
    refine lv_dup hx hb dX4_makeProbe_20 rfl ?_
    refine kr_get (T := TX2) (N := 4) hx hb hts hown hK (hw.lv 3 r hr0) rfl kin_X4_makeProbe_X2 3 (by decide) (by decide +kernel) rfl dX4_makeProbe_21 ?_
    refine lv_iconst (v := 1) hx hb dX4_makeProbe_24 (by decide) ?_
    refine lv_iadd hx hb dX4_makeProbe_25 ?_
    refine kr_top (y := nI (σ 13 r + 1)) (by rw [ku_f _ _ _ _ (by decide)]; exact nI_1 _) ?_
    refine kr_put (T := TX2) (N := 4) (v := .int (nI (σ 13 r + 1))) (ty := .int) hx hb hts hown hK hS (hw.lv 3 r hr0) (hw.1 3 r hr0).2 rfl kin_X4_makeProbe_X2 tyX2 tyX2_ok nmX2 3 (by decide) "Probeweb$Region" (hts (.fieldLink RX4 133 "Probeweb$Region" "probesFailed" "I") (by decide +kernel)) (fun _ h => h) rfl (by decide +kernel) rfl rfl (Nat.le_of_ble_eq_true rfl) dX4_makeProbe_26 (fun H1 locs hU ho hS => ?_)
    have hw := kw_p13 (v := σ 13 r + 1) hw hr0 hU ho
    clear hU ho
    have hB2 := kB_p13 (j := r) (v := σ 13 r + 1) hB1
    refine lv_aload_n hx hb dX4_makeProbe_29 rfl (lv_at hl 1 rfl) ?_
    refine lv_aload_n hx hb dX4_makeProbe_30 rfl (lv_at hl 2 rfl) ?_
    refine kr_get (T := TX2) (N := 4) hx hb hts hown hK (hw.lv 3 r hr0) rfl kin_X4_makeProbe_X2 0 (by decide) (by decide +kernel) rfl dX4_makeProbe_31 ?_
    refine lv_aload_n hx hb dX4_makeProbe_34 rfl (lv_at hl 0 rfl) ?_
    refine kr_get (T := TX4) (N := 7) hx hb hts hown hK (hw.lv 0 0 (rfl : (0 : Nat) = 0)) rfl kin_X4_makeProbe_X4 6 (by decide) (by decide +kernel) rfl dX4_makeProbe_35 ?_
    have e0 : ku (ku σ 12 r (σ 12 r + 1)) 13 r (σ 13 r + 1) 0 0 = σ 0 0 := by rw [ku_f _ _ _ _ (by decide), ku_f _ _ _ _ (by decide)]
    refine kr_top (y := nI (σ 0 0)) (by rw [e0]) ?_
    refine kgo_v (kc_V (As := [.int (nI r), .int (nI (σ 0 0))]) (rest := []) S hE hS hAb (cc_takeF ε l hAb hw hB2 (show i < ku (ku σ 12 r (σ 12 r + 1)) 13 r (σ 13 r + 1) 2 0 from hi) (hB.r6 hr0) hB.min) (cwV 2 hts gX4_makeProbe_X1_takeFailure rfl rfl rfl (by decide +kernel) ⟨Nat.le_of_ble_eq_true rfl, Nat.le_of_ble_eq_true rfl⟩) (hw.lv 4 i hi) rfl rfl hl.1 rfl (Nat.le_of_ble_eq_true rfl) dX4_makeProbe_38 ⟨Nat.zero_le _, Nat.zero_le _⟩) hS (fun _ h => h) (fun H1 locs hw hz hq hS => ?_)
    have he : kMake σ i r = kTakeF (ku (ku σ 12 r (σ 12 r + 1)) 13 r (σ 13 r + 1)) i r (σ 0 0) := by unfold kMake; rw [bI_ne0.mp hc]; rfl
    rw [← he] at hw
    refine lv_goto (tgt := 52) hx hb dX4_makeProbe_41 (by decide) ?_
    refine kend_v S hr hlocks hS hw dX4_makeProbe_52
theorem kin_X4_makeProbes_X4 : ∀ w ∈ wsX40, w ∈ wsX4_makeProbes := by decide +kernel
set_option maxHeartbeats 4000000 in
set_option maxRecDepth 100000 in
theorem cc_makeAll (ε : kEnv) (l : Launch) {A : Nat → Prop} {ad : Nat → Nat → Nat} {σ : kS} {H : Heap} (hAb : ∀ q, A q → kHi ε q) (hw : kW ε A ad σ H) (hB : kB σ) : kMv ε l yX4_makeProbes wsX4_makeProbes ({ frames := 3, cells := 0, slots := 0, locals := 85 }) [.ref (ad 0 0)] H A (0) (0) (fun H' => kW ε A ad (kPrbs σ) H') := by
  refine kof (cc := cX4_makeProbes) (maxL := 3) (ret := none) (by decide) rfl (Nat.le_of_ble_eq_true rfl) ?_
  intro p e s m below meth c ls S hr hlocks hin hH hE hl
  have S : CallFix p m c cX4_makeProbes 3 s _ wsX4_makeProbes RX4 := S
  have hx := S.1
  have hb := S.2.1
  have hown : s.vm.findClass RX4 = some m.cls := S.2.2.2.1
  have hts := S.2.2.2.2
  have hK := hE.1
  have hS : va_S A s.heap H [] := by rw [hH]; exact va_S.rf
  have hnR := hB.nR
  have hnC := hB.nC
  have hnW := hB.nW
  have hnA := hB.nA
  have hmn := hB.min
  have hl : lv_has ls 3 [(0, .ref (ad 0 0))] := hl
  refine lv_iconst (v := 0) hx hb dX4_makeProbes_0 (by decide) ?_
  refine lv_istore_n (lv' := [(1, .int 0), (0, .ref (ad 0 0))]) hx hb dX4_makeProbes_1 rfl hl (by decide) rfl (fun ls hl => ?_)
  suffices K : ∀ (n k : Nat) (H2 : Heap) (locs : List Loc) (ls : Array Slot), k + n = σ 2 0 → kW ε A ad ((kFor (fun c τ => kFor (fun r ρ => kPrb ρ c r) (σ 1 0) τ) k σ)) H2 → kPin kLp σ (kFor (fun c τ => kFor (fun r ρ => kPrb ρ c r) (σ 1 0) τ) k σ) → va_S A s.heap H2 locs → lv_has ls 3 [(1, .int (nI k)), (0, .ref (ad 0 0))] → W p l e ({ frames := 3, cells := 0, slots := 0, locals := 85 }) s m [.ref (ad 0 0)].toArray below meth c H2 locs 0 0 (MQ below (kQv (fun H' => kW ε A ad (kPrbs σ) H') A) [.ref (ad 0 0)].toArray s (0) (0) A) (F0 m 2 ls []) from K (σ 2 0) 0 _ _ _ (Nat.zero_add _) hw (kPin.rf hB) hS (lv_sub hl [0, 1] rfl)
  clear hl hS hw
  intro n
  induction n with
  | zero =>
    intro k H2 locs ls hkn hw hin hS hl
    have hkN : k = σ 2 0 := hkn
    clear hkn
    obtain ⟨τ, τe⟩ : ∃ z : kS, z = ((kFor (fun c τ => kFor (fun r ρ => kPrb ρ c r) (σ 1 0) τ) k σ)) := ⟨_, rfl⟩
    rw [← τe] at hw hin
    have hBt := hin.1
    have e1 : τ 1 0 = σ 1 0 := hin.2 1 0 (by decide)
    have e2 : τ 2 0 = σ 2 0 := hin.2 2 0 (by decide)
    have e3 : τ 3 0 = σ 3 0 := hin.2 3 0 (by decide)
    refine lv_iload_n hx hb dX4_makeProbes_2 rfl (lv_at hl 0 rfl) ?_
    refine lv_aload_n hx hb dX4_makeProbes_3 rfl (lv_at hl 1 rfl) ?_
    refine kr_get (T := TX4) (N := 7) hx hb hts hown hK (hw.lv 0 0 (rfl : (0 : Nat) = 0)) rfl kin_X4_makeProbes_X4 1 (by decide) (by decide +kernel) rfl dX4_makeProbes_4 ?_
    refine kgo_pi (v := nI (τ 2 0)) (kc_V (As := []) (rest := [.int (nI k)]) S hE hS hAb (kw_size l hw 1 (by decide)) (cwV 0 hts gX4_makeProbes_Jx4a65c_size_8abf5 rfl rfl rfl (by decide +kernel) ⟨Nat.le_of_ble_eq_true rfl, Nat.le_of_ble_eq_true rfl⟩) (hw.lv 1 1 (by decide : (1 : Nat) < 4)) rfl rfl hl.1 rfl (Nat.le_of_ble_eq_true rfl) dX4_makeProbes_7 ⟨Nat.zero_le _, Nat.zero_le _⟩) hS (fun locs hS => ?_)
    refine kr_top (y := nI (σ 2 0)) (by rw [e2]) ?_
    refine lv_icmp_ge (tgt := 86) hx hb dX4_makeProbes_10 (by decide) (fun _ => ?_) (fun hc => absurd (by rw [hkN]; exact Int32.le_refl _) hc)
    refine kend_v S hr hlocks hS (show kW ε A ad (kPrbs σ) _ by unfold kPrbs; rw [← hkN, ← τe]; exact hw) dX4_makeProbes_86
  | succ n ih =>
    intro k H2 locs ls hkn hw hin hS hl
    have hlt : k < σ 2 0 := by omega
    obtain ⟨τ0, τe0⟩ : ∃ z : kS, z = ((kFor (fun c τ => kFor (fun r ρ => kPrb ρ c r) (σ 1 0) τ) k σ)) := ⟨_, rfl⟩
    rw [← τe0] at hw hin
    have e2 : τ0 2 0 = σ 2 0 := hin.2 2 0 (by decide)
    refine lv_iload_n hx hb dX4_makeProbes_2 rfl (lv_at hl 0 rfl) ?_
    refine lv_aload_n hx hb dX4_makeProbes_3 rfl (lv_at hl 1 rfl) ?_
    refine kr_get (T := TX4) (N := 7) hx hb hts hown hK (hw.lv 0 0 (rfl : (0 : Nat) = 0)) rfl kin_X4_makeProbes_X4 1 (by decide) (by decide +kernel) rfl dX4_makeProbes_4 ?_
    refine kgo_pi (v := nI (τ0 2 0)) (kc_V (As := []) (rest := [.int (nI k)]) S hE hS hAb (kw_size l hw 1 (by decide)) (cwV 0 hts gX4_makeProbes_Jx4a65c_size_8abf5 rfl rfl rfl (by decide +kernel) ⟨Nat.le_of_ble_eq_true rfl, Nat.le_of_ble_eq_true rfl⟩) (hw.lv 1 1 (by decide : (1 : Nat) < 4)) rfl rfl hl.1 rfl (Nat.le_of_ble_eq_true rfl) dX4_makeProbes_7 ⟨Nat.zero_le _, Nat.zero_le _⟩) hS (fun locs hS => ?_)
    refine kr_top (y := nI (σ 2 0)) (by rw [e2]) ?_
    refine lv_icmp_ge (tgt := 86) hx hb dX4_makeProbes_10 (by decide) (fun hc => absurd hc (nI_ge hlt (by omega))) (fun _ => ?_)
    refine lv_iconst (v := 0) hx hb dX4_makeProbes_13 (by decide) ?_
    refine lv_istore_n (lv' := [(2, .int 0), (1, .int (nI k)), (0, .ref (ad 0 0))]) hx hb dX4_makeProbes_14 rfl hl (by decide) rfl (fun ls hl => ?_)
    suffices K2 : ∀ (n2 j : Nat) (H3 : Heap) (locs : List Loc) (ls : Array Slot), j + n2 = σ 1 0 → kW ε A ad ((kFor (fun r ρ => kPrb ρ k r) j τ0)) H3 → kPin kLp σ (kFor (fun r ρ => kPrb ρ k r) j τ0) → va_S A s.heap H3 locs → lv_has ls 3 [(2, .int (nI j)), (1, .int (nI k)), (0, .ref (ad 0 0))] → W p l e ({ frames := 3, cells := 0, slots := 0, locals := 85 }) s m [.ref (ad 0 0)].toArray below meth c H3 locs 0 0 (MQ below (kQv (fun H' => kW ε A ad (kPrbs σ) H') A) [.ref (ad 0 0)].toArray s (0) (0) A) (F0 m 15 ls []) from K2 (σ 1 0) 0 _ _ _ (Nat.zero_add _) hw (hin) hS (lv_sub hl [0, 1, 2] rfl)
    clear hl hS hw
    intro n2
    induction n2 with
    | zero =>
      intro j H3 locs ls hkn hw hin hS hl
      have hkN : j = σ 1 0 := hkn
      clear hkn
      have hBt := hin.1
      obtain ⟨τ, τe⟩ : ∃ z : kS, z = ((kFor (fun r ρ => kPrb ρ k r) j τ0)) := ⟨_, rfl⟩
      rw [← τe] at hw hin hBt
      have e1 : τ 1 0 = σ 1 0 := hin.2 1 0 (by decide)
      refine lv_iload_n hx hb dX4_makeProbes_15 rfl (lv_at hl 0 rfl) ?_
      refine lv_aload_n hx hb dX4_makeProbes_16 rfl (lv_at hl 2 rfl) ?_
      refine kr_get (T := TX4) (N := 7) hx hb hts hown hK (hw.lv 0 0 (rfl : (0 : Nat) = 0)) rfl kin_X4_makeProbes_X4 0 (by decide) (by decide +kernel) rfl dX4_makeProbes_17 ?_
      refine kgo_pi (v := nI (τ 1 0)) (kc_V (As := []) (rest := [.int (nI j)]) S hE hS hAb (kw_size l hw 0 (by decide)) (cwV 0 hts gX4_makeProbes_Jx4a65c_size_8abf5 rfl rfl rfl (by decide +kernel) ⟨Nat.le_of_ble_eq_true rfl, Nat.le_of_ble_eq_true rfl⟩) (hw.lv 1 0 (by decide : (0 : Nat) < 4)) rfl rfl hl.1 rfl (Nat.le_of_ble_eq_true rfl) dX4_makeProbes_20 ⟨Nat.zero_le _, Nat.zero_le _⟩) hS (fun locs hS => ?_)
      refine kr_top (y := nI (σ 1 0)) (by rw [e1]) ?_
      refine lv_icmp_ge (tgt := 80) hx hb dX4_makeProbes_23 (by decide) (fun _ => ?_) (fun hc => absurd (by rw [hkN]; exact Int32.le_refl _) hc)
      refine lv_iinc (v := nI (k + 1)) (lv' := [(1, .int (nI (k + 1))), (2, .int (nI j)), (0, .ref (ad 0 0))]) hx hb dX4_makeProbes_80 hl (k := 1) rfl (nI_1 k) (by decide) rfl (fun ls hl => ?_)
      refine lv_goto (tgt := 2) hx hb dX4_makeProbes_83 (by decide) ?_
      rw [hkN] at τe
      subst τe
      subst τe0
      exact ih (k + 1) _ _ _ (by omega) hw (hin) hS (lv_sub hl [0, 2] rfl)
    | succ n2 ih2 =>
      intro j H3 locs ls hkn hw hin hS hl
      have hlt2 : j < σ 1 0 := by omega
      obtain ⟨τ, τe⟩ : ∃ z : kS, z = ((kFor (fun r ρ => kPrb ρ k r) j τ0)) := ⟨_, rfl⟩
      rw [← τe] at hw hin
      have hBt := hin.1
      have e1 : τ 1 0 = σ 1 0 := hin.2 1 0 (by decide)
      have e2 : τ 2 0 = σ 2 0 := hin.2 2 0 (by decide)
      have e3 : τ 3 0 = σ 3 0 := hin.2 3 0 (by decide)
      refine lv_iload_n hx hb dX4_makeProbes_15 rfl (lv_at hl 0 rfl) ?_
      refine lv_aload_n hx hb dX4_makeProbes_16 rfl (lv_at hl 2 rfl) ?_
      refine kr_get (T := TX4) (N := 7) hx hb hts hown hK (hw.lv 0 0 (rfl : (0 : Nat) = 0)) rfl kin_X4_makeProbes_X4 0 (by decide) (by decide +kernel) rfl dX4_makeProbes_17 ?_
      refine kgo_pi (v := nI (τ 1 0)) (kc_V (As := []) (rest := [.int (nI j)]) S hE hS hAb (kw_size l hw 0 (by decide)) (cwV 0 hts gX4_makeProbes_Jx4a65c_size_8abf5 rfl rfl rfl (by decide +kernel) ⟨Nat.le_of_ble_eq_true rfl, Nat.le_of_ble_eq_true rfl⟩) (hw.lv 1 0 (by decide : (0 : Nat) < 4)) rfl rfl hl.1 rfl (Nat.le_of_ble_eq_true rfl) dX4_makeProbes_20 ⟨Nat.zero_le _, Nat.zero_le _⟩) hS (fun locs hS => ?_)
      refine kr_top (y := nI (σ 1 0)) (by rw [e1]) ?_
      refine lv_icmp_ge (tgt := 80) hx hb dX4_makeProbes_23 (by decide) (fun hc => absurd hc (nI_ge hlt2 (by omega))) (fun _ => ?_)
      have hk : k < τ 2 0 := by omega
      have hj : j < τ 1 0 := by omega
      have h6 : j < 6 := by omega
      have e0 : τ 0 0 ≤ 102400 := hBt.min
      refine lv_aload_n hx hb dX4_makeProbes_26 rfl (lv_at hl 2 rfl) ?_
      refine kr_get (T := TX4) (N := 7) hx hb hts hown hK (hw.lv 0 0 (rfl : (0 : Nat) = 0)) rfl kin_X4_makeProbes_X4 1 (by decide) (by decide +kernel) rfl dX4_makeProbes_27 ?_
      refine lv_iload_n hx hb dX4_makeProbes_30 rfl (lv_at hl 1 rfl) ?_
      refine kgo_pr (v := ad 4 k) (kc_V (As := [.int (nI k)]) (rest := []) S hE hS hAb (kw_get l hw hBt 1 (by decide) (j := k) (x := ad 4 k) hk rfl) (cwV 1 hts gX4_makeProbes_Jx4a65c_get_915e3 rfl rfl rfl (by decide +kernel) ⟨Nat.le_of_ble_eq_true rfl, Nat.le_of_ble_eq_true rfl⟩) (hw.lv 1 1 (by decide : (1 : Nat) < 4)) rfl rfl hl.1 rfl (Nat.le_of_ble_eq_true rfl) dX4_makeProbes_31 ⟨Nat.zero_le _, Nat.zero_le _⟩) hS (fun locs hS => ?_)
      refine kr_cast (T := TX1) (N := 13) hx hb hts hown hK (hw.lv 4 k hk) rfl (by decide +kernel) dX4_makeProbes_34 ?_
      refine lv_iload_n hx hb dX4_makeProbes_37 rfl (lv_at hl 0 rfl) ?_
      refine lv_aload_n hx hb dX4_makeProbes_38 rfl (lv_at hl 2 rfl) ?_
      refine kr_get (T := TX4) (N := 7) hx hb hts hown hK (hw.lv 0 0 (rfl : (0 : Nat) = 0)) rfl kin_X4_makeProbes_X4 6 (by decide) (by decide +kernel) rfl dX4_makeProbes_39 ?_
      refine kgo_pi (v := bI (kNext τ k j (τ 0 0) == τ 0 0)) (kc_V (As := [.int (nI j), .int (nI (τ 0 0))]) (rest := []) S hE hS hAb (cc_isDue ε l hw hBt hk h6 (Nat.le_trans e0 (by decide))) (cwV 2 hts gX4_makeProbes_X1_isDue rfl rfl rfl (by decide +kernel) ⟨Nat.le_of_ble_eq_true rfl, Nat.le_of_ble_eq_true rfl⟩) (hw.lv 4 k hk) rfl rfl hl.1 rfl (Nat.le_of_ble_eq_true rfl) dX4_makeProbes_42 ⟨Nat.zero_le _, Nat.zero_le _⟩) hS (fun locs hS => ?_)
      refine lv_if_eq (tgt := 74) hx hb dX4_makeProbes_45 (by decide) (fun hc => ?_) (fun hc => ?_)
      · have he : kPrb τ k j = τ := by unfold kPrb; rw [if_neg (by simpa using bI_eq0.mp hc)]
        rw [← he] at hw
        refine lv_iinc (v := nI (j + 1)) (lv' := [(2, .int (nI (j + 1))), (1, .int (nI k)), (0, .ref (ad 0 0))]) hx hb dX4_makeProbes_74 hl (k := 0) rfl (nI_1 j) (by decide) rfl (fun ls hl => ?_)
        refine lv_goto (tgt := 15) hx hb dX4_makeProbes_77 (by decide) ?_
        have hin := kPrb_in (r := j) hin hlt hlt2
        subst τe
        exact ih2 (j + 1) _ _ _ (by omega) hw (hin) hS (lv_sub hl [0, 1, 2] rfl)
      · refine lv_aload_n hx hb dX4_makeProbes_48 rfl (lv_at hl 2 rfl) ?_
        refine lv_aload_n hx hb dX4_makeProbes_49 rfl (lv_at hl 2 rfl) ?_
        refine kr_get (T := TX4) (N := 7) hx hb hts hown hK (hw.lv 0 0 (rfl : (0 : Nat) = 0)) rfl kin_X4_makeProbes_X4 1 (by decide) (by decide +kernel) rfl dX4_makeProbes_50 ?_
        refine lv_iload_n hx hb dX4_makeProbes_53 rfl (lv_at hl 1 rfl) ?_
        refine kgo_pr (v := ad 4 k) (kc_V (As := [.int (nI k)]) (rest := [.ref (ad 0 0)]) S hE hS hAb (kw_get l hw hBt 1 (by decide) (j := k) (x := ad 4 k) hk rfl) (cwV 1 hts gX4_makeProbes_Jx4a65c_get_915e3 rfl rfl rfl (by decide +kernel) ⟨Nat.le_of_ble_eq_true rfl, Nat.le_of_ble_eq_true rfl⟩) (hw.lv 1 1 (by decide : (1 : Nat) < 4)) rfl rfl hl.1 rfl (Nat.le_of_ble_eq_true rfl) dX4_makeProbes_54 ⟨Nat.zero_le _, Nat.zero_le _⟩) hS (fun locs hS => ?_)
        refine kr_cast (T := TX1) (N := 13) hx hb hts hown hK (hw.lv 4 k hk) rfl (by decide +kernel) dX4_makeProbes_57 ?_
        refine lv_aload_n hx hb dX4_makeProbes_60 rfl (lv_at hl 2 rfl) ?_
        refine kr_get (T := TX4) (N := 7) hx hb hts hown hK (hw.lv 0 0 (rfl : (0 : Nat) = 0)) rfl kin_X4_makeProbes_X4 0 (by decide) (by decide +kernel) rfl dX4_makeProbes_61 ?_
        refine lv_iload_n hx hb dX4_makeProbes_64 rfl (lv_at hl 0 rfl) ?_
        refine kgo_pr (v := ad 3 j) (kc_V (As := [.int (nI j)]) (rest := [.ref (ad 4 k), .ref (ad 0 0)]) S hE hS hAb (kw_get l hw hBt 0 (by decide) (j := j) (x := ad 3 j) hj rfl) (cwV 1 hts gX4_makeProbes_Jx4a65c_get_915e3 rfl rfl rfl (by decide +kernel) ⟨Nat.le_of_ble_eq_true rfl, Nat.le_of_ble_eq_true rfl⟩) (hw.lv 1 0 (by decide : (0 : Nat) < 4)) rfl rfl hl.1 rfl (Nat.le_of_ble_eq_true rfl) dX4_makeProbes_65 ⟨Nat.zero_le _, Nat.zero_le _⟩) hS (fun locs hS => ?_)
        refine kr_cast (T := TX2) (N := 4) hx hb hts hown hK (hw.lv 3 j hj) rfl (by decide +kernel) dX4_makeProbes_68 ?_
        refine kgo_v (kc_V (As := [.ref (ad 4 k), .ref (ad 3 j)]) (rest := []) S hE hS hAb (cc_make ε l hAb hw hBt hk hj) (cwV 2 hts gX4_makeProbes_X4_makeProbe rfl rfl rfl (by decide +kernel) ⟨Nat.le_of_ble_eq_true rfl, Nat.le_of_ble_eq_true rfl⟩) (hw.lv 0 0 (rfl : (0 : Nat) = 0)) rfl rfl hl.1 rfl (Nat.le_of_ble_eq_true rfl) dX4_makeProbes_71 ⟨Nat.zero_le _, Nat.zero_le _⟩) hS (fun _ h => h) (fun H1 locs hw hz hq hS => ?_)
        have he : kPrb τ k j = kMake τ k j := by unfold kPrb; rw [if_pos (by simpa using bI_ne0.mp hc)]
        rw [← he] at hw
        refine lv_iinc (v := nI (j + 1)) (lv' := [(2, .int (nI (j + 1))), (1, .int (nI k)), (0, .ref (ad 0 0))]) hx hb dX4_makeProbes_74 hl (k := 0) rfl (nI_1 j) (by decide) rfl (fun ls hl => ?_)
        refine lv_goto (tgt := 15) hx hb dX4_makeProbes_77 (by decide) ?_
        have hin := kPrb_in (r := j) hin hlt hlt2
        subst τe
        exact ih2 (j + 1) _ _ _ (by omega) hw (hin) hS (lv_sub hl [0, 1, 2] rfl)
theorem kin_X4_countMinute_X4 : ∀ w ∈ wsX40, w ∈ wsX4_countMinute := by decide +kernel
theorem kin_X4_countMinute_X1 : ∀ w ∈ wsX10, w ∈ wsX4_countMinute := by decide +kernel
set_option maxHeartbeats 4000000 in
set_option maxRecDepth 100000 in
theorem cc_count (ε : kEnv) (l : Launch) {A : Nat → Prop} {ad : Nat → Nat → Nat} {σ : kS} {H : Heap} (hAb : ∀ q, A q → kHi ε q) (hw : kW ε A ad σ H) (hB : kB σ) : kMv ε l yX4_countMinute wsX4_countMinute ({ frames := 3, cells := 0, slots := 0, locals := 64 }) [.ref (ad 0 0)] H A (0) (0) (fun H' => kW ε A ad (kCts σ) H') := by
  refine kof (cc := cX4_countMinute) (maxL := 3) (ret := none) (by decide) rfl (Nat.le_of_ble_eq_true rfl) ?_
  intro p e s m below meth c ls S hr hlocks hin hH hE hl
  have S : CallFix p m c cX4_countMinute 3 s _ wsX4_countMinute RX4 := S
  have hx := S.1
  have hb := S.2.1
  have hown : s.vm.findClass RX4 = some m.cls := S.2.2.2.1
  have hts := S.2.2.2.2
  have hK := hE.1
  have hS : va_S A s.heap H [] := by rw [hH]; exact va_S.rf
  have hnR := hB.nR
  have hnC := hB.nC
  have hnW := hB.nW
  have hnA := hB.nA
  have hmn := hB.min
  have hl : lv_has ls 3 [(0, .ref (ad 0 0))] := hl
  refine lv_iconst (v := 0) hx hb dX4_countMinute_0 (by decide) ?_
  refine lv_istore_n (lv' := [(1, .int 0), (0, .ref (ad 0 0))]) hx hb dX4_countMinute_1 rfl hl (by decide) rfl (fun ls hl => ?_)
  suffices K : ∀ (n k : Nat) (H2 : Heap) (locs : List Loc) (ls : Array Slot), k + n = σ 2 0 → kW ε A ad ((kFor (fun c τ => kCt2 (kCt1 τ c) c) k σ)) H2 → kPin [26, 27] σ (kFor (fun c τ => kCt2 (kCt1 τ c) c) k σ) → va_S A s.heap H2 locs → lv_has ls 3 [(1, .int (nI k)), (0, .ref (ad 0 0))] → W p l e ({ frames := 3, cells := 0, slots := 0, locals := 64 }) s m [.ref (ad 0 0)].toArray below meth c H2 locs 0 0 (MQ below (kQv (fun H' => kW ε A ad (kCts σ) H') A) [.ref (ad 0 0)].toArray s (0) (0) A) (F0 m 2 ls []) from K (σ 2 0) 0 _ _ _ (Nat.zero_add _) hw (kPin.rf hB) hS (lv_sub hl [0, 1] rfl)
  clear hl hS hw
  intro n
  induction n with
  | zero =>
    intro k H2 locs ls hkn hw hin hS hl
    have hkN : k = σ 2 0 := hkn
    clear hkn
    obtain ⟨τ, τe⟩ : ∃ z : kS, z = ((kFor (fun c τ => kCt2 (kCt1 τ c) c) k σ)) := ⟨_, rfl⟩
    rw [← τe] at hw hin
    have hBt := hin.1
    have e1 : τ 1 0 = σ 1 0 := hin.2 1 0 (by decide)
    have e2 : τ 2 0 = σ 2 0 := hin.2 2 0 (by decide)
    have e3 : τ 3 0 = σ 3 0 := hin.2 3 0 (by decide)
    refine lv_iload_n hx hb dX4_countMinute_2 rfl (lv_at hl 0 rfl) ?_
    refine lv_aload_n hx hb dX4_countMinute_3 rfl (lv_at hl 1 rfl) ?_
    refine kr_get (T := TX4) (N := 7) hx hb hts hown hK (hw.lv 0 0 (rfl : (0 : Nat) = 0)) rfl kin_X4_countMinute_X4 1 (by decide) (by decide +kernel) rfl dX4_countMinute_4 ?_
    refine kgo_pi (v := nI (τ 2 0)) (kc_V (As := []) (rest := [.int (nI k)]) S hE hS hAb (kw_size l hw 1 (by decide)) (cwV 0 hts gX4_countMinute_Jx4a65c_size_8abf5 rfl rfl rfl (by decide +kernel) ⟨Nat.le_of_ble_eq_true rfl, Nat.le_of_ble_eq_true rfl⟩) (hw.lv 1 1 (by decide : (1 : Nat) < 4)) rfl rfl hl.1 rfl (Nat.le_of_ble_eq_true rfl) dX4_countMinute_7 ⟨Nat.zero_le _, Nat.zero_le _⟩) hS (fun locs hS => ?_)
    refine kr_top (y := nI (σ 2 0)) (by rw [e2]) ?_
    refine lv_icmp_ge (tgt := 66) hx hb dX4_countMinute_10 (by decide) (fun _ => ?_) (fun hc => absurd (by rw [hkN]; exact Int32.le_refl _) hc)
    refine kend_v S hr hlocks hS (show kW ε A ad (kCts σ) _ by unfold kCts; rw [← hkN, ← τe]; exact hw) dX4_countMinute_66
  | succ n ih =>
    intro k H2 locs ls hkn hw hin hS hl
    have hlt : k < σ 2 0 := by omega
    obtain ⟨τ, τe⟩ : ∃ z : kS, z = ((kFor (fun c τ => kCt2 (kCt1 τ c) c) k σ)) := ⟨_, rfl⟩
    rw [← τe] at hw hin
    have hBt := hin.1
    have e1 : τ 1 0 = σ 1 0 := hin.2 1 0 (by decide)
    have e2 : τ 2 0 = σ 2 0 := hin.2 2 0 (by decide)
    have e3 : τ 3 0 = σ 3 0 := hin.2 3 0 (by decide)
    refine lv_iload_n hx hb dX4_countMinute_2 rfl (lv_at hl 0 rfl) ?_
    refine lv_aload_n hx hb dX4_countMinute_3 rfl (lv_at hl 1 rfl) ?_
    refine kr_get (T := TX4) (N := 7) hx hb hts hown hK (hw.lv 0 0 (rfl : (0 : Nat) = 0)) rfl kin_X4_countMinute_X4 1 (by decide) (by decide +kernel) rfl dX4_countMinute_4 ?_
    refine kgo_pi (v := nI (τ 2 0)) (kc_V (As := []) (rest := [.int (nI k)]) S hE hS hAb (kw_size l hw 1 (by decide)) (cwV 0 hts gX4_countMinute_Jx4a65c_size_8abf5 rfl rfl rfl (by decide +kernel) ⟨Nat.le_of_ble_eq_true rfl, Nat.le_of_ble_eq_true rfl⟩) (hw.lv 1 1 (by decide : (1 : Nat) < 4)) rfl rfl hl.1 rfl (Nat.le_of_ble_eq_true rfl) dX4_countMinute_7 ⟨Nat.zero_le _, Nat.zero_le _⟩) hS (fun locs hS => ?_)
    refine kr_top (y := nI (σ 2 0)) (by rw [e2]) ?_
    refine lv_icmp_ge (tgt := 66) hx hb dX4_countMinute_10 (by decide) (fun hc => absurd hc (nI_ge hlt (by omega))) (fun _ => ?_)
    have hk : k < τ 2 0 := by omega
    have hck := hBt.ck k hk
    refine lv_aload_n hx hb dX4_countMinute_13 rfl (lv_at hl 1 rfl) ?_
    refine kr_get (T := TX4) (N := 7) hx hb hts hown hK (hw.lv 0 0 (rfl : (0 : Nat) = 0)) rfl kin_X4_countMinute_X4 1 (by decide) (by decide +kernel) rfl dX4_countMinute_14 ?_
    refine lv_iload_n hx hb dX4_countMinute_17 rfl (lv_at hl 0 rfl) ?_
    refine kgo_pr (v := ad 4 k) (kc_V (As := [.int (nI k)]) (rest := []) S hE hS hAb (kw_get l hw hBt 1 (by decide) (j := k) (x := ad 4 k) hk rfl) (cwV 1 hts gX4_countMinute_Jx4a65c_get_915e3 rfl rfl rfl (by decide +kernel) ⟨Nat.le_of_ble_eq_true rfl, Nat.le_of_ble_eq_true rfl⟩) (hw.lv 1 1 (by decide : (1 : Nat) < 4)) rfl rfl hl.1 rfl (Nat.le_of_ble_eq_true rfl) dX4_countMinute_18 ⟨Nat.zero_le _, Nat.zero_le _⟩) hS (fun locs hS => ?_)
    refine kr_cast (T := TX1) (N := 13) hx hb hts hown hK (hw.lv 4 k hk) rfl (by decide +kernel) dX4_countMinute_21 ?_
    refine lv_astore_n (lv' := [(2, .ref (ad 4 k)), (1, .int (nI k)), (0, .ref (ad 0 0))]) hx hb dX4_countMinute_24 rfl hl (by decide) rfl (fun ls hl => ?_)
    refine lv_aload_n hx hb dX4_countMinute_25 rfl (lv_at hl 0 rfl) ?_
    refine kr_get (T := TX1) (N := 13) hx hb hts hown hK (hw.lv 4 k hk) rfl kin_X4_countMinute_X1 9 (by decide) (by decide +kernel) rfl dX4_countMinute_26 ?_
    refine lv_if_eq (tgt := 42) hx hb dX4_countMinute_29 (by decide) (fun hc => ?_) (fun hc => ?_)
    · have he : kCt1 τ k = τ := by unfold kCt1; rw [if_neg (fun h => h ((nI_eq (by omega) (by decide)).mp hc))]
      rw [← he] at hw
      have e24 : kCt1 τ k 24 k = τ 24 k := by unfold kCt1; split; exact ku_f _ _ _ _ (by decide); rfl
      have e26 : kCt1 τ k 26 k = τ 26 k := by unfold kCt1; split; exact ku_f _ _ _ _ (by decide); rfl
      have hk1 : k < kCt1 τ k 2 0 := by unfold kCt1; split; exact hk; exact hk
      refine lv_aload_n hx hb dX4_countMinute_42 rfl (lv_at hl 0 rfl) ?_
      refine kr_get (T := TX1) (N := 13) hx hb hts hown hK (hw.lv 4 k hk1) rfl kin_X4_countMinute_X1 9 (by decide) (by decide +kernel) rfl dX4_countMinute_43 ?_
      refine kr_top (y := nI (τ 24 k)) (by rw [e24]) ?_
      refine lv_iconst (v := 1) hx hb dX4_countMinute_46 (by decide) ?_
      refine lv_icmp_ne (tgt := 60) hx hb dX4_countMinute_47 (by decide) (fun hc2 => ?_) (fun hc2 => ?_)
      · have he2 : kCt2 (kCt1 τ k) k = kCt1 τ k := by unfold kCt2; rw [if_neg (fun h => hc2 (by rw [← e24, h]; rfl))]
        rw [← he2] at hw
        refine lv_iinc (v := nI (k + 1)) (lv' := [(1, .int (nI (k + 1))), (2, .ref (ad 4 k)), (0, .ref (ad 0 0))]) hx hb dX4_countMinute_60 hl (k := 1) rfl (nI_1 k) (by decide) rfl (fun ls hl => ?_)
        refine lv_goto (tgt := 2) hx hb dX4_countMinute_63 (by decide) ?_
        have hin := kCt2_in (kCt1_in hin k) k
        subst τe
        exact ih (k + 1) _ _ _ (by omega) hw (hin) hS (lv_sub hl [0, 2] rfl)
      · refine lv_aload_n hx hb dX4_countMinute_50 rfl (lv_at hl 0 rfl) ?_
        refine lv_dup hx hb dX4_countMinute_51 rfl ?_
        refine kr_get (T := TX1) (N := 13) hx hb hts hown hK (hw.lv 4 k hk1) rfl kin_X4_countMinute_X1 11 (by decide) (by decide +kernel) rfl dX4_countMinute_52 ?_
        refine lv_iconst (v := 1) hx hb dX4_countMinute_55 (by decide) ?_
        refine lv_iadd hx hb dX4_countMinute_56 ?_
        refine kr_top (y := nI (kCt1 τ k 26 k + 1)) (nI_1 _) ?_
        refine kr_put (T := TX1) (N := 13) (v := .int (nI (kCt1 τ k 26 k + 1))) (ty := .int) hx hb hts hown hK hS (hw.lv 4 k hk1) (hw.1 4 k hk1).2 rfl kin_X4_countMinute_X1 tyX1 tyX1_ok nmX1 11 (by decide) "Probeweb$Check" (hts (.fieldLink RX4 166 "Probeweb$Check" "minutesUp" "I") (by decide +kernel)) (fun _ h => h) rfl (by decide +kernel) rfl rfl (Nat.le_of_ble_eq_true rfl) dX4_countMinute_57 (fun H1 locs hU ho hS => ?_)
        have hw := kw_p26 (v := kCt1 τ k 26 k + 1) hw hk1 hU ho
        clear hU ho
        have he2 : kCt2 (kCt1 τ k) k = ku (kCt1 τ k) 26 k (kCt1 τ k 26 k + 1) := by unfold kCt2; rw [if_pos (by rw [e24]; exact (nI_eq (by omega) (by decide)).mp hc2)]
        rw [← he2] at hw
        refine lv_iinc (v := nI (k + 1)) (lv' := [(1, .int (nI (k + 1))), (2, .ref (ad 4 k)), (0, .ref (ad 0 0))]) hx hb dX4_countMinute_60 hl (k := 1) rfl (nI_1 k) (by decide) rfl (fun ls hl => ?_)
        refine lv_goto (tgt := 2) hx hb dX4_countMinute_63 (by decide) ?_
        have hin := kCt2_in (kCt1_in hin k) k
        subst τe
        exact ih (k + 1) _ _ _ (by omega) hw (hin) hS (lv_sub hl [0, 2] rfl)
    · refine lv_aload_n hx hb dX4_countMinute_32 rfl (lv_at hl 0 rfl) ?_
      refine lv_dup hx hb dX4_countMinute_33 rfl ?_
      refine kr_get (T := TX1) (N := 13) hx hb hts hown hK (hw.lv 4 k hk) rfl kin_X4_countMinute_X1 12 (by decide) (by decide +kernel) rfl dX4_countMinute_34 ?_
      refine lv_iconst (v := 1) hx hb dX4_countMinute_37 (by decide) ?_
      refine lv_iadd hx hb dX4_countMinute_38 ?_
      refine kr_top (y := nI (τ 27 k + 1)) (nI_1 _) ?_
      refine kr_put (T := TX1) (N := 13) (v := .int (nI (τ 27 k + 1))) (ty := .int) hx hb hts hown hK hS (hw.lv 4 k hk) (hw.1 4 k hk).2 rfl kin_X4_countMinute_X1 tyX1 tyX1_ok nmX1 12 (by decide) "Probeweb$Check" (hts (.fieldLink RX4 161 "Probeweb$Check" "minutesCounted" "I") (by decide +kernel)) (fun _ h => h) rfl (by decide +kernel) rfl rfl (Nat.le_of_ble_eq_true rfl) dX4_countMinute_39 (fun H1 locs hU ho hS => ?_)
      have hw := kw_p27 (v := τ 27 k + 1) hw hk hU ho
      clear hU ho
      have he : kCt1 τ k = ku τ 27 k (τ 27 k + 1) := by unfold kCt1; rw [if_pos (fun h => hc (by rw [h]; rfl))]
      rw [← he] at hw
      have e24 : kCt1 τ k 24 k = τ 24 k := by unfold kCt1; split; exact ku_f _ _ _ _ (by decide); rfl
      have e26 : kCt1 τ k 26 k = τ 26 k := by unfold kCt1; split; exact ku_f _ _ _ _ (by decide); rfl
      have hk1 : k < kCt1 τ k 2 0 := by unfold kCt1; split; exact hk; exact hk
      refine lv_aload_n hx hb dX4_countMinute_42 rfl (lv_at hl 0 rfl) ?_
      refine kr_get (T := TX1) (N := 13) hx hb hts hown hK (hw.lv 4 k hk1) rfl kin_X4_countMinute_X1 9 (by decide) (by decide +kernel) rfl dX4_countMinute_43 ?_
      refine kr_top (y := nI (τ 24 k)) (by rw [e24]) ?_
      refine lv_iconst (v := 1) hx hb dX4_countMinute_46 (by decide) ?_
      refine lv_icmp_ne (tgt := 60) hx hb dX4_countMinute_47 (by decide) (fun hc2 => ?_) (fun hc2 => ?_)
      · have he2 : kCt2 (kCt1 τ k) k = kCt1 τ k := by unfold kCt2; rw [if_neg (fun h => hc2 (by rw [← e24, h]; rfl))]
        rw [← he2] at hw
        refine lv_iinc (v := nI (k + 1)) (lv' := [(1, .int (nI (k + 1))), (2, .ref (ad 4 k)), (0, .ref (ad 0 0))]) hx hb dX4_countMinute_60 hl (k := 1) rfl (nI_1 k) (by decide) rfl (fun ls hl => ?_)
        refine lv_goto (tgt := 2) hx hb dX4_countMinute_63 (by decide) ?_
        have hin := kCt2_in (kCt1_in hin k) k
        subst τe
        exact ih (k + 1) _ _ _ (by omega) hw (hin) hS (lv_sub hl [0, 2] rfl)
      · refine lv_aload_n hx hb dX4_countMinute_50 rfl (lv_at hl 0 rfl) ?_
        refine lv_dup hx hb dX4_countMinute_51 rfl ?_
        refine kr_get (T := TX1) (N := 13) hx hb hts hown hK (hw.lv 4 k hk1) rfl kin_X4_countMinute_X1 11 (by decide) (by decide +kernel) rfl dX4_countMinute_52 ?_
        refine lv_iconst (v := 1) hx hb dX4_countMinute_55 (by decide) ?_
        refine lv_iadd hx hb dX4_countMinute_56 ?_
        refine kr_top (y := nI (kCt1 τ k 26 k + 1)) (nI_1 _) ?_
        refine kr_put (T := TX1) (N := 13) (v := .int (nI (kCt1 τ k 26 k + 1))) (ty := .int) hx hb hts hown hK hS (hw.lv 4 k hk1) (hw.1 4 k hk1).2 rfl kin_X4_countMinute_X1 tyX1 tyX1_ok nmX1 11 (by decide) "Probeweb$Check" (hts (.fieldLink RX4 166 "Probeweb$Check" "minutesUp" "I") (by decide +kernel)) (fun _ h => h) rfl (by decide +kernel) rfl rfl (Nat.le_of_ble_eq_true rfl) dX4_countMinute_57 (fun H1 locs hU ho hS => ?_)
        have hw := kw_p26 (v := kCt1 τ k 26 k + 1) hw hk1 hU ho
        clear hU ho
        have he2 : kCt2 (kCt1 τ k) k = ku (kCt1 τ k) 26 k (kCt1 τ k 26 k + 1) := by unfold kCt2; rw [if_pos (by rw [e24]; exact (nI_eq (by omega) (by decide)).mp hc2)]
        rw [← he2] at hw
        refine lv_iinc (v := nI (k + 1)) (lv' := [(1, .int (nI (k + 1))), (2, .ref (ad 4 k)), (0, .ref (ad 0 0))]) hx hb dX4_countMinute_60 hl (k := 1) rfl (nI_1 k) (by decide) rfl (fun ls hl => ?_)
        refine lv_goto (tgt := 2) hx hb dX4_countMinute_63 (by decide) ?_
        have hin := kCt2_in (kCt1_in hin k) k
        subst τe
        exact ih (k + 1) _ _ _ (by omega) hw (hin) hS (lv_sub hl [0, 2] rfl)
