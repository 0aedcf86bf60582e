theorem kin_X4_trustedRegions_X4 : ∀ w ∈ wsX40, w ∈ wsX4_trustedRegions := by decide +kernel
theorem kin_X4_trustedRegions_X1 : ∀ w ∈ wsX10, w ∈ wsX4_trustedRegions := by decide +kernel
theorem kin_X4_trustedRegions_X2 : ∀ w ∈ wsX20, w ∈ wsX4_trustedRegions := by decide +kernel
set_option maxHeartbeats 4000000 in
set_option maxRecDepth 100000 in
theorem cc_trusted (ε : kEnv) (l : Launch) {A : Nat → Prop} {ad : Nat → Nat → Nat} {σ : kS} {H : Heap} {i : Nat} (hw : kW ε A ad σ H) (hB : kB σ) (hi : i < σ 2 0) : kPi ε l yX4_trustedRegions wsX4_trustedRegions ({ frames := 3, cells := 0, slots := 0, locals := 64 }) [.ref (ad 0 0), .ref (ad 4 i)] H (nI (kTrm σ i (σ 1 0))) := by
  refine kof (cc := cX4_trustedRegions) (maxL := 5) (ret := (some .int)) (by decide) rfl (Nat.le_of_ble_eq_true rfl) ?_
  intro p e s m below meth c ls S hr hlocks hin hH hE hl
  have S : CallFix p m c cX4_trustedRegions 5 s _ wsX4_trustedRegions RX4 := S
  have hx := S.1
  have hb := S.2.1
  have hown : s.vm.findClass RX4 = some m.cls := S.2.2.2.1
  have hts := S.2.2.2.2
  have hK := hE.1
  have hS : va_S kNo s.heap H [] := by rw [hH]; exact va_S.rf
  have hAb : ∀ q, kNo q → kHi ε q := fun _ h => h.elim
  have hnR := hB.nR
  have hnC := hB.nC
  have hnW := hB.nW
  have hnA := hB.nA
  have hmn := hB.min
  have hl : lv_has ls 5 [(0, .ref (ad 0 0)), (1, .ref (ad 4 i))] := hl
  refine lv_iconst (v := 0) hx hb dX4_trustedRegions_0 (by decide) ?_
  refine lv_istore_n (lv' := [(2, .int 0), (0, .ref (ad 0 0)), (1, .ref (ad 4 i))]) hx hb dX4_trustedRegions_1 rfl hl (by decide) rfl (fun ls hl => ?_)
  refine lv_iconst (v := 0) hx hb dX4_trustedRegions_2 (by decide) ?_
  refine lv_istore_n (lv' := [(3, .int 0), (2, .int 0), (0, .ref (ad 0 0)), (1, .ref (ad 4 i))]) hx hb dX4_trustedRegions_3 rfl hl (by decide) rfl (fun ls hl => ?_)
  suffices K : ∀ (n k : Nat) (locs : List Loc) (ls : Array Slot), k + n = σ 1 0 → va_S kNo s.heap H locs → lv_has ls 5 [(3, .int (nI k)), (2, .int (nI (kTrm σ i k))), (0, .ref (ad 0 0)), (1, .ref (ad 4 i))] → W p l e ({ frames := 3, cells := 0, slots := 0, locals := 64 }) s m [.ref (ad 0 0), .ref (ad 4 i)].toArray below meth c H locs 0 0 (MQ below (kQi (fun r9 H9 => r9 = nI (kTrm σ i (σ 1 0)) ∧ H9 = H) kNo) [.ref (ad 0 0), .ref (ad 4 i)].toArray s 0 0 kNo) (F0 m 4 ls []) from K (σ 1 0) 0 _ _ (Nat.zero_add _) hS (lv_sub hl [0, 1, 2, 3] rfl)
  clear hl hS
  intro n
  induction n with
  | zero =>
    intro k locs ls hkn  hS hl
    have hkN : k = σ 1 0 := hkn
    clear hkn
    refine lv_iload_n hx hb dX4_trustedRegions_4 rfl (lv_at hl 0 rfl) ?_
    refine lv_aload_n hx hb dX4_trustedRegions_5 rfl (lv_at hl 2 rfl) ?_
    refine kr_get (T := TX4) (N := 7) hx hb hts hown hK (hw.lv 0 0 (rfl : (0 : Nat) = 0)) rfl kin_X4_trustedRegions_X4 0 (by decide) (by decide +kernel) rfl dX4_trustedRegions_6 ?_
    refine kgo_pi (v := nI (σ 1 0)) (kc_V (As := []) (rest := [.int (nI k)]) S hE hS hAb (kw_size l hw 0 (by decide)) (cwV 0 hts gX4_trustedRegions_Jx4a65c_size_8abf5 rfl rfl rfl (by decide +kernel) ⟨Nat.le_of_ble_eq_true rfl, Nat.le_of_ble_eq_true rfl⟩) (hw.lv 1 0 (by decide : (0 : Nat) < 4)) rfl rfl hl.1 rfl (Nat.le_of_ble_eq_true rfl) dX4_trustedRegions_9 ⟨Nat.zero_le _, Nat.zero_le _⟩) hS (fun locs hS => ?_)
    refine lv_icmp_ge (tgt := 67) hx hb dX4_trustedRegions_12 (by decide) (fun _ => ?_) (fun hc => absurd (by rw [hkN]; exact Int32.le_refl _) hc)
    refine lv_iload_n hx hb dX4_trustedRegions_67 rfl (lv_at hl 1 rfl) ?_
    refine kend_i S hr hlocks hS ⟨by rw [hkN], rfl⟩ dX4_trustedRegions_68
  | succ n ih =>
    intro k locs ls hkn  hS hl
    have hlt : k < σ 1 0 := by omega
    have h6 := hB.r6 hlt
    have hp := hB.pr i k hi h6
    refine lv_iload_n hx hb dX4_trustedRegions_4 rfl (lv_at hl 0 rfl) ?_
    refine lv_aload_n hx hb dX4_trustedRegions_5 rfl (lv_at hl 2 rfl) ?_
    refine kr_get (T := TX4) (N := 7) hx hb hts hown hK (hw.lv 0 0 (rfl : (0 : Nat) = 0)) rfl kin_X4_trustedRegions_X4 0 (by decide) (by decide +kernel) rfl dX4_trustedRegions_6 ?_
    refine kgo_pi (v := nI (σ 1 0)) (kc_V (As := []) (rest := [.int (nI k)]) S hE hS hAb (kw_size l hw 0 (by decide)) (cwV 0 hts gX4_trustedRegions_Jx4a65c_size_8abf5 rfl rfl rfl (by decide +kernel) ⟨Nat.le_of_ble_eq_true rfl, Nat.le_of_ble_eq_true rfl⟩) (hw.lv 1 0 (by decide : (0 : Nat) < 4)) rfl rfl hl.1 rfl (Nat.le_of_ble_eq_true rfl) dX4_trustedRegions_9 ⟨Nat.zero_le _, Nat.zero_le _⟩) hS (fun locs hS => ?_)
    refine lv_icmp_ge (tgt := 67) hx hb dX4_trustedRegions_12 (by decide) (fun hc => absurd hc (nI_ge hlt (by omega))) (fun _ => ?_)
    refine lv_aload_n hx hb dX4_trustedRegions_15 rfl (lv_at hl 3 rfl) ?_
    refine kr_get (T := TX1) (N := 13) hx hb hts hown hK (hw.lv 4 i hi) rfl kin_X4_trustedRegions_X1 6 (by decide) (by decide +kernel) rfl dX4_trustedRegions_16 ?_
    refine lv_iload_n hx hb dX4_trustedRegions_19 rfl (lv_at hl 0 rfl) ?_
    refine kr_ild hx hb hK (hw.lv 5 i hi) (j := k) h6 (nI_clamp (ks31 h6)) (nI_pos (ks31 h6)) (x := nI (σ 31 (6 * i + k))) rfl dX4_trustedRegions_20 ?_
    refine lv_if_eq (tgt := 50) hx hb dX4_trustedRegions_21 (by decide) (fun hc => ?_) (fun hc => ?_)
    · refine lv_iconst (v := 0) hx hb dX4_trustedRegions_50 (by decide) ?_
      refine kr_top (y := bI (kTrb σ i k)) (by unfold kTrb; rw [show (σ 31 (6 * i + k) != 0) = false by simpa using (nI_eq (by omega) (by decide)).mp hc]; rfl) ?_
      refine lv_istore (lv' := [(4, .int (bI (kTrb σ i k))), (3, .int (nI k)), (2, .int (nI (kTrm σ i k))), (0, .ref (ad 0 0)), (1, .ref (ad 4 i))]) hx hb dX4_trustedRegions_51 hl (by decide) rfl (fun ls hl => ?_)
      refine lv_iload_n hx hb dX4_trustedRegions_53 rfl (lv_at hl 2 rfl) ?_
      refine lv_iload_n hx hb dX4_trustedRegions_54 rfl (lv_at hl 1 rfl) ?_
      refine lv_iload hx hb dX4_trustedRegions_55 (lv_at hl 0 rfl) ?_
      refine kgo_pi (v := nI (kTrm σ i (k + 1))) (kc_S (As := [.int (nI (kTrm σ i k)), .int (nI k), .int (bI (kTrb σ i k))]) (rest := []) S hE hS hAb (cc_with ε l (b := kTrb σ i k) (kTrm_lt σ i k (by omega)) h6) (va_cwS 3 hts gX4_trustedRegions_X4_withRegion rfl rfl rfl (by decide +kernel) ⟨Nat.le_of_ble_eq_true rfl, Nat.le_of_ble_eq_true rfl⟩) rfl hl.1 rfl (Nat.le_of_ble_eq_true rfl) dX4_trustedRegions_57 ⟨Nat.zero_le _, Nat.zero_le _⟩) hS (fun locs hS => ?_)
      refine lv_istore_n (lv' := [(2, .int (nI (kTrm σ i (k + 1)))), (4, .int (bI (kTrb σ i k))), (3, .int (nI k)), (0, .ref (ad 0 0)), (1, .ref (ad 4 i))]) hx hb dX4_trustedRegions_60 rfl hl (by decide) rfl (fun ls hl => ?_)
      refine lv_iinc (v := nI (k + 1)) (lv' := [(3, .int (nI (k + 1))), (2, .int (nI (kTrm σ i (k + 1)))), (4, .int (bI (kTrb σ i k))), (0, .ref (ad 0 0)), (1, .ref (ad 4 i))]) hx hb dX4_trustedRegions_61 hl (k := 2) rfl (nI_1 k) (by decide) rfl (fun ls hl => ?_)
      refine lv_goto (tgt := 4) hx hb dX4_trustedRegions_64 (by decide) ?_
      exact ih (k + 1) _ _ (by omega) hS (lv_sub hl [0, 1, 3, 4] rfl)
    · have hv : (σ 31 (6 * i + k) != 0) = true := by simpa using fun h : σ 31 (6 * i + k) = 0 => hc (by rw [h]; rfl)
      refine lv_aload_n hx hb dX4_trustedRegions_24 rfl (lv_at hl 2 rfl) ?_
      refine kr_get (T := TX4) (N := 7) hx hb hts hown hK (hw.lv 0 0 (rfl : (0 : Nat) = 0)) rfl kin_X4_trustedRegions_X4 0 (by decide) (by decide +kernel) rfl dX4_trustedRegions_25 ?_
      refine lv_iload_n hx hb dX4_trustedRegions_28 rfl (lv_at hl 0 rfl) ?_
      refine kgo_pr (v := ad 3 k) (kc_V (As := [.int (nI k)]) (rest := []) S hE hS hAb (kw_get l hw hB 0 (by decide) (j := k) (x := ad 3 k) hlt rfl) (cwV 1 hts gX4_trustedRegions_Jx4a65c_get_915e3 rfl rfl rfl (by decide +kernel) ⟨Nat.le_of_ble_eq_true rfl, Nat.le_of_ble_eq_true rfl⟩) (hw.lv 1 0 (by decide : (0 : Nat) < 4)) rfl rfl hl.1 rfl (Nat.le_of_ble_eq_true rfl) dX4_trustedRegions_29 ⟨Nat.zero_le _, Nat.zero_le _⟩) hS (fun locs hS => ?_)
      refine kr_cast (T := TX2) (N := 4) hx hb hts hown hK (hw.lv 3 k hlt) rfl (by decide +kernel) dX4_trustedRegions_32 ?_
      refine kr_get (T := TX2) (N := 4) hx hb hts hown hK (hw.lv 3 k hlt) rfl kin_X4_trustedRegions_X2 1 (by decide) (by decide +kernel) rfl dX4_trustedRegions_35 ?_
      refine lv_aload_n hx hb dX4_trustedRegions_38 rfl (lv_at hl 2 rfl) ?_
      refine kr_get (T := TX4) (N := 7) hx hb hts hown hK (hw.lv 0 0 (rfl : (0 : Nat) = 0)) rfl kin_X4_trustedRegions_X4 5 (by decide) (by decide +kernel) rfl dX4_trustedRegions_39 ?_
      refine lv_iand hx hb dX4_trustedRegions_42 ?_
      have hm := kb_meet _ (hB.rg k hlt).1 _ hB.bad
      refine lv_if_ne (tgt := 50) hx hb dX4_trustedRegions_43 (by decide) (fun hc2 => ?_) (fun hc2 => ?_)
      · refine lv_iconst (v := 0) hx hb dX4_trustedRegions_50 (by decide) ?_
        refine kr_top (y := bI (kTrb σ i k)) (by unfold kTrb; rw [hv, show ((σ 11 k &&& σ 15 0) == 0) = false by simpa using fun h => hc2 (hm.mpr h)]; rfl) ?_
        refine lv_istore (lv' := [(4, .int (bI (kTrb σ i k))), (3, .int (nI k)), (2, .int (nI (kTrm σ i k))), (0, .ref (ad 0 0)), (1, .ref (ad 4 i))]) hx hb dX4_trustedRegions_51 hl (by decide) rfl (fun ls hl => ?_)
        refine lv_iload_n hx hb dX4_trustedRegions_53 rfl (lv_at hl 2 rfl) ?_
        refine lv_iload_n hx hb dX4_trustedRegions_54 rfl (lv_at hl 1 rfl) ?_
        refine lv_iload hx hb dX4_trustedRegions_55 (lv_at hl 0 rfl) ?_
        refine kgo_pi (v := nI (kTrm σ i (k + 1))) (kc_S (As := [.int (nI (kTrm σ i k)), .int (nI k), .int (bI (kTrb σ i k))]) (rest := []) S hE hS hAb (cc_with ε l (b := kTrb σ i k) (kTrm_lt σ i k (by omega)) h6) (va_cwS 3 hts gX4_trustedRegions_X4_withRegion rfl rfl rfl (by decide +kernel) ⟨Nat.le_of_ble_eq_true rfl, Nat.le_of_ble_eq_true rfl⟩) rfl hl.1 rfl (Nat.le_of_ble_eq_true rfl) dX4_trustedRegions_57 ⟨Nat.zero_le _, Nat.zero_le _⟩) hS (fun locs hS => ?_)
        refine lv_istore_n (lv' := [(2, .int (nI (kTrm σ i (k + 1)))), (4, .int (bI (kTrb σ i k))), (3, .int (nI k)), (0, .ref (ad 0 0)), (1, .ref (ad 4 i))]) hx hb dX4_trustedRegions_60 rfl hl (by decide) rfl (fun ls hl => ?_)
        refine lv_iinc (v := nI (k + 1)) (lv' := [(3, .int (nI (k + 1))), (2, .int (nI (kTrm σ i (k + 1)))), (4, .int (bI (kTrb σ i k))), (0, .ref (ad 0 0)), (1, .ref (ad 4 i))]) hx hb dX4_trustedRegions_61 hl (k := 2) rfl (nI_1 k) (by decide) rfl (fun ls hl => ?_)
        refine lv_goto (tgt := 4) hx hb dX4_trustedRegions_64 (by decide) ?_
        exact ih (k + 1) _ _ (by omega) hS (lv_sub hl [0, 1, 3, 4] rfl)
      · refine lv_iconst (v := 1) hx hb dX4_trustedRegions_46 (by decide) ?_
        refine lv_goto (tgt := 51) hx hb dX4_trustedRegions_47 (by decide) ?_
        refine kr_top (y := bI (kTrb σ i k)) (by unfold kTrb; rw [hv, show ((σ 11 k &&& σ 15 0) == 0) = true by simpa using hm.mp hc2]; rfl) ?_
        refine lv_istore (lv' := [(4, .int (bI (kTrb σ i k))), (3, .int (nI k)), (2, .int (nI (kTrm σ i k))), (0, .ref (ad 0 0)), (1, .ref (ad 4 i))]) hx hb dX4_trustedRegions_51 hl (by decide) rfl (fun ls hl => ?_)
        refine lv_iload_n hx hb dX4_trustedRegions_53 rfl (lv_at hl 2 rfl) ?_
        refine lv_iload_n hx hb dX4_trustedRegions_54 rfl (lv_at hl 1 rfl) ?_
        refine lv_iload hx hb dX4_trustedRegions_55 (lv_at hl 0 rfl) ?_
        refine kgo_pi (v := nI (kTrm σ i (k + 1))) (kc_S (As := [.int (nI (kTrm σ i k)), .int (nI k), .int (bI (kTrb σ i k))]) (rest := []) S hE hS hAb (cc_with ε l (b := kTrb σ i k) (kTrm_lt σ i k (by omega)) h6) (va_cwS 3 hts gX4_trustedRegions_X4_withRegion rfl rfl rfl (by decide +kernel) ⟨Nat.le_of_ble_eq_true rfl, Nat.le_of_ble_eq_true rfl⟩) rfl hl.1 rfl (Nat.le_of_ble_eq_true rfl) dX4_trustedRegions_57 ⟨Nat.zero_le _, Nat.zero_le _⟩) hS (fun locs hS => ?_)
        refine lv_istore_n (lv' := [(2, .int (nI (kTrm σ i (k + 1)))), (4, .int (bI (kTrb σ i k))), (3, .int (nI k)), (0, .ref (ad 0 0)), (1, .ref (ad 4 i))]) hx hb dX4_trustedRegions_60 rfl hl (by decide) rfl (fun ls hl => ?_)
        refine lv_iinc (v := nI (k + 1)) (lv' := [(3, .int (nI (k + 1))), (2, .int (nI (kTrm σ i (k + 1)))), (4, .int (bI (kTrb σ i k))), (0, .ref (ad 0 0)), (1, .ref (ad 4 i))]) hx hb dX4_trustedRegions_61 hl (k := 2) rfl (nI_1 k) (by decide) rfl (fun ls hl => ?_)
        refine lv_goto (tgt := 4) hx hb dX4_trustedRegions_64 (by decide) ?_
        exact ih (k + 1) _ _ (by omega) hS (lv_sub hl [0, 1, 3, 4] rfl)
theorem kin_X4_votesAreBad_X4 : ∀ w ∈ wsX40, w ∈ wsX4_votesAreBad := by decide +kernel
theorem kin_X4_votesAreBad_X1 : ∀ w ∈ wsX10, w ∈ wsX4_votesAreBad := by decide +kernel
set_option maxHeartbeats 4000000 in
set_option maxRecDepth 100000 in
theorem cc_votesBad (ε : kEnv) (l : Launch) {A : Nat → Prop} {ad : Nat → Nat → Nat} {σ : kS} {H : Heap} {r : Nat} (hw : kW ε A ad σ H) (hB : kB σ) (hr6 : r < 6) : kPi ε l yX4_votesAreBad wsX4_votesAreBad ({ frames := 3, cells := 0, slots := 0, locals := 64 }) [.ref (ad 0 0), .int (nI r)] H (bI (kBadv σ r)) := by
  refine kof (cc := cX4_votesAreBad) (maxL := 6) (ret := (some .boolean)) (by decide) rfl (Nat.le_of_ble_eq_true rfl) ?_
  intro p e s m below meth c ls S hr hlocks hin hH hE hl
  have S : CallFix p m c cX4_votesAreBad 6 s _ wsX4_votesAreBad RX4 := S
  have hx := S.1
  have hb := S.2.1
  have hown : s.vm.findClass RX4 = some m.cls := S.2.2.2.1
  have hts := S.2.2.2.2
  have hK := hE.1
  have hS : va_S kNo s.heap H [] := by rw [hH]; exact va_S.rf
  have hAb : ∀ q, kNo q → kHi ε q := fun _ h => h.elim
  have hnR := hB.nR
  have hnC := hB.nC
  have hnW := hB.nW
  have hnA := hB.nA
  have hmn := hB.min
  have hl : lv_has ls 6 [(0, .ref (ad 0 0)), (1, .int (nI r))] := hl
  refine lv_iconst (v := 0) hx hb dX4_votesAreBad_0 (by decide) ?_
  refine lv_istore_n (lv' := [(2, .int 0), (0, .ref (ad 0 0)), (1, .int (nI r))]) hx hb dX4_votesAreBad_1 rfl hl (by decide) rfl (fun ls hl => ?_)
  refine lv_iconst (v := 0) hx hb dX4_votesAreBad_2 (by decide) ?_
  refine lv_istore_n (lv' := [(3, .int 0), (2, .int 0), (0, .ref (ad 0 0)), (1, .int (nI r))]) hx hb dX4_votesAreBad_3 rfl hl (by decide) rfl (fun ls hl => ?_)
  refine lv_iconst (v := 0) hx hb dX4_votesAreBad_4 (by decide) ?_
  refine lv_istore (lv' := [(4, .int 0), (3, .int 0), (2, .int 0), (0, .ref (ad 0 0)), (1, .int (nI r))]) hx hb dX4_votesAreBad_5 hl (by decide) rfl (fun ls hl => ?_)
  suffices K : ∀ (n k : Nat) (locs : List Loc) (ls : Array Slot), k + n = σ 2 0 → va_S kNo s.heap H locs → lv_has ls 6 [(4, .int (nI k)), (3, .int (nI (kcnt (fun c => σ 31 (6 * c + r) == 2) k))), (2, .int (nI (kcnt (fun c => σ 31 (6 * c + r) != 0) k))), (0, .ref (ad 0 0)), (1, .int (nI r))] → W p l e ({ frames := 3, cells := 0, slots := 0, locals := 64 }) s m [.ref (ad 0 0), .int (nI r)].toArray below meth c H locs 0 0 (MQ below (kQi (fun r9 H9 => r9 = bI (kBadv σ r) ∧ H9 = H) kNo) [.ref (ad 0 0), .int (nI r)].toArray s 0 0 kNo) (F0 m 7 ls []) from K (σ 2 0) 0 _ _ (Nat.zero_add _) hS (lv_sub hl [0, 1, 2, 3, 4] rfl)
  clear hl hS
  intro n
  induction n with
  | zero =>
    intro k locs ls hkn  hS hl
    have hkN : k = σ 2 0 := hkn
    clear hkn
    refine lv_iload hx hb dX4_votesAreBad_7 (lv_at hl 0 rfl) ?_
    refine lv_aload_n hx hb dX4_votesAreBad_9 rfl (lv_at hl 3 rfl) ?_
    refine kr_get (T := TX4) (N := 7) hx hb hts hown hK (hw.lv 0 0 (rfl : (0 : Nat) = 0)) rfl kin_X4_votesAreBad_X4 1 (by decide) (by decide +kernel) rfl dX4_votesAreBad_10 ?_
    refine kgo_pi (v := nI (σ 2 0)) (kc_V (As := []) (rest := [.int (nI k)]) S hE hS hAb (kw_size l hw 1 (by decide)) (cwV 0 hts gX4_votesAreBad_Jx4a65c_size_8abf5 rfl rfl rfl (by decide +kernel) ⟨Nat.le_of_ble_eq_true rfl, Nat.le_of_ble_eq_true rfl⟩) (hw.lv 1 1 (by decide : (1 : Nat) < 4)) rfl rfl hl.1 rfl (Nat.le_of_ble_eq_true rfl) dX4_votesAreBad_13 ⟨Nat.zero_le _, Nat.zero_le _⟩) hS (fun locs hS => ?_)
    refine lv_icmp_ge (tgt := 61) hx hb dX4_votesAreBad_16 (by decide) (fun _ => ?_) (fun hc => absurd (by rw [hkN]; exact Int32.le_refl _) hc)
    rw [hkN] at hl
    have h8 := hB.nC
    have hn1 := kcnt_le (fun c => σ 31 (6 * c + r) != 0) (σ 2 0)
    have hn2 := kcnt_le (fun c => σ 31 (6 * c + r) == 2) (σ 2 0)
    refine lv_iload_n hx hb dX4_votesAreBad_61 rfl (lv_at hl 2 rfl) ?_
    refine lv_iconst (v := 2) hx hb dX4_votesAreBad_62 (by decide) ?_
    refine lv_icmp_lt (tgt := 77) hx hb dX4_votesAreBad_63 (by decide) (fun hc => ?_) (fun hc => ?_)
    · have hq : ¬ 2 ≤ kcnt (fun c => σ 31 (6 * c + r) != 0) (σ 2 0) := fun h => absurd hc (nI_nlt h (by omega))
      refine lv_iconst (v := 0) hx hb dX4_votesAreBad_77 (by decide) ?_
      refine kend_z S hr hlocks hS ⟨by unfold kBadv; rw [decide_eq_false hq]; rfl, rfl⟩ (Or.inl rfl) dX4_votesAreBad_78
    · have hq : 2 ≤ kcnt (fun c => σ 31 (6 * c + r) != 0) (σ 2 0) := by
        rcases Nat.lt_or_ge (kcnt (fun c => σ 31 (6 * c + r) != 0) (σ 2 0)) 2 with h | h
        · exact absurd (nI_lt h (by decide)) hc
        · exact h
      refine lv_iconst (v := 2) hx hb dX4_votesAreBad_66 (by decide) ?_
      refine lv_iload_n hx hb dX4_votesAreBad_67 rfl (lv_at hl 1 rfl) ?_
      refine lv_imul hx hb dX4_votesAreBad_68 ?_
      refine kr_top (y := nI (2 * kcnt (fun c => σ 31 (6 * c + r) == 2) (σ 2 0))) (pk_mul 2 _) ?_
      refine lv_iload_n hx hb dX4_votesAreBad_69 rfl (lv_at hl 2 rfl) ?_
      refine lv_icmp_le (tgt := 77) hx hb dX4_votesAreBad_70 (by decide) (fun hc2 => ?_) (fun hc2 => ?_)
      · have hd : ¬ kcnt (fun c => σ 31 (6 * c + r) != 0) (σ 2 0) < 2 * kcnt (fun c => σ 31 (6 * c + r) == 2) (σ 2 0) := fun h => absurd hc2 (nI_ge h (by omega))
        refine lv_iconst (v := 0) hx hb dX4_votesAreBad_77 (by decide) ?_
        refine kend_z S hr hlocks hS ⟨by unfold kBadv; rw [decide_eq_true hq, decide_eq_false hd]; rfl, rfl⟩ (Or.inl rfl) dX4_votesAreBad_78
      · have hd : kcnt (fun c => σ 31 (6 * c + r) != 0) (σ 2 0) < 2 * kcnt (fun c => σ 31 (6 * c + r) == 2) (σ 2 0) := by
          rcases Nat.lt_or_ge (kcnt (fun c => σ 31 (6 * c + r) != 0) (σ 2 0)) (2 * kcnt (fun c => σ 31 (6 * c + r) == 2) (σ 2 0)) with h | h
          · exact h
          · exact absurd (nI_le h (by omega)) hc2
        refine lv_iconst (v := 1) hx hb dX4_votesAreBad_73 (by decide) ?_
        refine lv_goto (tgt := 78) hx hb dX4_votesAreBad_74 (by decide) ?_
        refine kend_z S hr hlocks hS ⟨by unfold kBadv; rw [decide_eq_true hq, decide_eq_true hd]; rfl, rfl⟩ (Or.inr rfl) dX4_votesAreBad_78
  | succ n ih =>
    intro k locs ls hkn  hS hl
    have hlt : k < σ 2 0 := by omega
    have hp := hB.pr k r hlt hr6
    have h8 := hB.c8 hlt
    refine lv_iload hx hb dX4_votesAreBad_7 (lv_at hl 0 rfl) ?_
    refine lv_aload_n hx hb dX4_votesAreBad_9 rfl (lv_at hl 3 rfl) ?_
    refine kr_get (T := TX4) (N := 7) hx hb hts hown hK (hw.lv 0 0 (rfl : (0 : Nat) = 0)) rfl kin_X4_votesAreBad_X4 1 (by decide) (by decide +kernel) rfl dX4_votesAreBad_10 ?_
    refine kgo_pi (v := nI (σ 2 0)) (kc_V (As := []) (rest := [.int (nI k)]) S hE hS hAb (kw_size l hw 1 (by decide)) (cwV 0 hts gX4_votesAreBad_Jx4a65c_size_8abf5 rfl rfl rfl (by decide +kernel) ⟨Nat.le_of_ble_eq_true rfl, Nat.le_of_ble_eq_true rfl⟩) (hw.lv 1 1 (by decide : (1 : Nat) < 4)) rfl rfl hl.1 rfl (Nat.le_of_ble_eq_true rfl) dX4_votesAreBad_13 ⟨Nat.zero_le _, Nat.zero_le _⟩) hS (fun locs hS => ?_)
    refine lv_icmp_ge (tgt := 61) hx hb dX4_votesAreBad_16 (by decide) (fun hc => absurd hc (nI_ge hlt (by omega))) (fun _ => ?_)
    refine lv_aload_n hx hb dX4_votesAreBad_19 rfl (lv_at hl 3 rfl) ?_
    refine kr_get (T := TX4) (N := 7) hx hb hts hown hK (hw.lv 0 0 (rfl : (0 : Nat) = 0)) rfl kin_X4_votesAreBad_X4 1 (by decide) (by decide +kernel) rfl dX4_votesAreBad_20 ?_
    refine lv_iload hx hb dX4_votesAreBad_23 (lv_at hl 0 rfl) ?_
    refine kgo_pr (v := ad 4 k) (kc_V (As := [.int (nI k)]) (rest := []) S hE hS hAb (kw_get l hw hB 1 (by decide) (j := k) (x := ad 4 k) hlt rfl) (cwV 1 hts gX4_votesAreBad_Jx4a65c_get_915e3 rfl rfl rfl (by decide +kernel) ⟨Nat.le_of_ble_eq_true rfl, Nat.le_of_ble_eq_true rfl⟩) (hw.lv 1 1 (by decide : (1 : Nat) < 4)) rfl rfl hl.1 rfl (Nat.le_of_ble_eq_true rfl) dX4_votesAreBad_25 ⟨Nat.zero_le _, Nat.zero_le _⟩) hS (fun locs hS => ?_)
    refine kr_cast (T := TX1) (N := 13) hx hb hts hown hK (hw.lv 4 k hlt) rfl (by decide +kernel) dX4_votesAreBad_28 ?_
    refine kr_get (T := TX1) (N := 13) hx hb hts hown hK (hw.lv 4 k hlt) rfl kin_X4_votesAreBad_X1 6 (by decide) (by decide +kernel) rfl dX4_votesAreBad_31 ?_
    refine lv_iload_n hx hb dX4_votesAreBad_34 rfl (lv_at hl 4 rfl) ?_
    refine kr_ild hx hb hK (hw.lv 5 k hlt) (j := r) hr6 (nI_clamp (ks31 hr6)) (nI_pos (ks31 hr6)) (x := nI (σ 31 (6 * k + r))) rfl dX4_votesAreBad_35 ?_
    refine lv_istore (lv' := [(5, .int (nI (σ 31 (6 * k + r)))), (4, .int (nI k)), (3, .int (nI (kcnt (fun c => σ 31 (6 * c + r) == 2) k))), (2, .int (nI (kcnt (fun c => σ 31 (6 * c + r) != 0) k))), (0, .ref (ad 0 0)), (1, .int (nI r))]) hx hb dX4_votesAreBad_36 hl (by decide) rfl (fun ls hl => ?_)
    refine lv_iload hx hb dX4_votesAreBad_38 (lv_at hl 0 rfl) ?_
    refine lv_if_eq (tgt := 46) hx hb dX4_votesAreBad_40 (by decide) (fun hc => ?_) (fun hc => ?_)
    · have hv : σ 31 (6 * k + r) = 0 := (nI_eq (by omega) (by decide)).mp hc
      have hs2 : kcnt (fun c => σ 31 (6 * c + r) != 0) (k + 1) = kcnt (fun c => σ 31 (6 * c + r) != 0) k := kcnt_f (by show (σ 31 (6 * k + r) != 0) = false; rw [hv]; rfl)
      have hs3 : kcnt (fun c => σ 31 (6 * c + r) == 2) (k + 1) = kcnt (fun c => σ 31 (6 * c + r) == 2) k := kcnt_f (by show (σ 31 (6 * k + r) == 2) = false; rw [hv]; rfl)
      rw [← hs2] at hl
      rw [← hs3] at hl
      refine lv_iload hx hb dX4_votesAreBad_46 (lv_at hl 0 rfl) ?_
      refine lv_iconst (v := 2) hx hb dX4_votesAreBad_48 (by decide) ?_
      refine lv_icmp_ne (tgt := 55) hx hb dX4_votesAreBad_49 (by decide) (fun _ => ?_) (fun hc => absurd hc (by rw [hv]; decide))
      refine lv_iinc (v := nI (k + 1)) (lv' := [(4, .int (nI (k + 1))), (5, .int (nI (σ 31 (6 * k + r)))), (3, .int (nI (kcnt (fun c => σ 31 (6 * c + r) == 2) (k + 1)))), (2, .int (nI (kcnt (fun c => σ 31 (6 * c + r) != 0) (k + 1)))), (0, .ref (ad 0 0)), (1, .int (nI r))]) hx hb dX4_votesAreBad_55 hl (k := 1) rfl (nI_1 k) (by decide) rfl (fun ls hl => ?_)
      refine lv_goto (tgt := 7) hx hb dX4_votesAreBad_58 (by decide) ?_
      exact ih (k + 1) _ _ (by omega) hS (lv_sub hl [0, 2, 3, 4, 5] rfl)
    · have hv : ¬ σ 31 (6 * k + r) = 0 := fun h => hc (by rw [h]; rfl)
      have hs2 : kcnt (fun c => σ 31 (6 * c + r) != 0) (k + 1) = kcnt (fun c => σ 31 (6 * c + r) != 0) k + 1 := kcnt_t (by show (σ 31 (6 * k + r) != 0) = true; simpa using hv)
      refine lv_iinc (v := nI (kcnt (fun c => σ 31 (6 * c + r) != 0) (k + 1))) (lv' := [(2, .int (nI (kcnt (fun c => σ 31 (6 * c + r) != 0) (k + 1)))), (5, .int (nI (σ 31 (6 * k + r)))), (4, .int (nI k)), (3, .int (nI (kcnt (fun c => σ 31 (6 * c + r) == 2) k))), (0, .ref (ad 0 0)), (1, .int (nI r))]) hx hb dX4_votesAreBad_43 hl (k := 3) rfl (by rw [hs2]; exact nI_1 _) (by decide) rfl (fun ls hl => ?_)
      refine lv_iload hx hb dX4_votesAreBad_46 (lv_at hl 1 rfl) ?_
      refine lv_iconst (v := 2) hx hb dX4_votesAreBad_48 (by decide) ?_
      refine lv_icmp_ne (tgt := 55) hx hb dX4_votesAreBad_49 (by decide) (fun hc2 => ?_) (fun hc2 => ?_)
      · have hs3 : kcnt (fun c => σ 31 (6 * c + r) == 2) (k + 1) = kcnt (fun c => σ 31 (6 * c + r) == 2) k := kcnt_f (by show (σ 31 (6 * k + r) == 2) = false; simpa using fun h : σ 31 (6 * k + r) = 2 => hc2 (by rw [h]; rfl))
        rw [← hs3] at hl
        refine lv_iinc (v := nI (k + 1)) (lv' := [(4, .int (nI (k + 1))), (2, .int (nI (kcnt (fun c => σ 31 (6 * c + r) != 0) (k + 1)))), (5, .int (nI (σ 31 (6 * k + r)))), (3, .int (nI (kcnt (fun c => σ 31 (6 * c + r) == 2) (k + 1)))), (0, .ref (ad 0 0)), (1, .int (nI r))]) hx hb dX4_votesAreBad_55 hl (k := 2) rfl (nI_1 k) (by decide) rfl (fun ls hl => ?_)
        refine lv_goto (tgt := 7) hx hb dX4_votesAreBad_58 (by decide) ?_
        exact ih (k + 1) _ _ (by omega) hS (lv_sub hl [0, 3, 1, 4, 5] rfl)
      · have hs3 : kcnt (fun c => σ 31 (6 * c + r) == 2) (k + 1) = kcnt (fun c => σ 31 (6 * c + r) == 2) k + 1 := kcnt_t (by show (σ 31 (6 * k + r) == 2) = true; simpa using (nI_eq (by omega) (by decide)).mp hc2)
        refine lv_iinc (v := nI (kcnt (fun c => σ 31 (6 * c + r) == 2) (k + 1))) (lv' := [(3, .int (nI (kcnt (fun c => σ 31 (6 * c + r) == 2) (k + 1)))), (2, .int (nI (kcnt (fun c => σ 31 (6 * c + r) != 0) (k + 1)))), (5, .int (nI (σ 31 (6 * k + r)))), (4, .int (nI k)), (0, .ref (ad 0 0)), (1, .int (nI r))]) hx hb dX4_votesAreBad_52 hl (k := 3) rfl (by rw [hs3]; exact nI_1 _) (by decide) rfl (fun ls hl => ?_)
        refine lv_iinc (v := nI (k + 1)) (lv' := [(4, .int (nI (k + 1))), (3, .int (nI (kcnt (fun c => σ 31 (6 * c + r) == 2) (k + 1)))), (2, .int (nI (kcnt (fun c => σ 31 (6 * c + r) != 0) (k + 1)))), (5, .int (nI (σ 31 (6 * k + r)))), (0, .ref (ad 0 0)), (1, .int (nI r))]) hx hb dX4_votesAreBad_55 hl (k := 3) rfl (nI_1 k) (by decide) rfl (fun ls hl => ?_)
        refine lv_goto (tgt := 7) hx hb dX4_votesAreBad_58 (by decide) ?_
        exact ih (k + 1) _ _ (by omega) hS (lv_sub hl [0, 1, 2, 4, 5] rfl)
theorem kin_X3_contains_X3 : ∀ w ∈ wsX30, w ∈ wsX3_contains := by decide +kernel
set_option maxHeartbeats 4000000 in
set_option maxRecDepth 100000 in
theorem cc_contains (ε : kEnv) (l : Launch) {A : Nat → Prop} {ad : Nat → Nat → Nat} {σ : kS} {H : Heap} {i t : Nat} (hw : kW ε A ad σ H) (hB : kB σ) (hi : i < σ 3 0) (ht : t ≤ 102400) : kPi ε l yX3_contains wsX3_contains ({ frames := 0, cells := 0, slots := 0, locals := 0 }) [.ref (ad 8 i), .int (nI t)] H (bI (decide (σ 41 i ≤ t) && decide (t ≤ σ 42 i))) := by
  refine kof (cc := cX3_contains) (maxL := 2) (ret := (some .boolean)) (by decide) rfl (Nat.le_of_ble_eq_true rfl) ?_
  intro p e s m below meth c ls S hr hlocks hin hH hE hl
  have S : CallFix p m c cX3_contains 2 s _ wsX3_contains RX3 := S
  have hx := S.1
  have hb := S.2.1
  have hown : s.vm.findClass RX3 = some m.cls := S.2.2.2.1
  have hts := S.2.2.2.2
  have hK := hE.1
  have hS : va_S kNo s.heap H [] := by rw [hH]; exact va_S.rf
  have hAb : ∀ q, kNo q → kHi ε q := fun _ h => h.elim
  have hnR := hB.nR
  have hnC := hB.nC
  have hnW := hB.nW
  have hnA := hB.nA
  have hmn := hB.min
  have hl : lv_has ls 2 [(0, .ref (ad 8 i)), (1, .int (nI t))] := hl
  have hw2 := hB.wn i hi
  refine lv_aload_n hx hb dX3_contains_0 rfl (lv_at hl 0 rfl) ?_
  refine kr_get (T := TX3) (N := 3) hx hb hts hown hK (hw.lv 8 i hi) rfl kin_X3_contains_X3 1 (by decide) (by decide +kernel) rfl dX3_contains_1 ?_
  refine lv_iload_n hx hb dX3_contains_4 rfl (lv_at hl 1 rfl) ?_
  refine lv_icmp_gt (tgt := 20) hx hb dX3_contains_5 (by decide) (fun hc => ?_) (fun hc => ?_)
  · have h1 : ¬ σ 41 i ≤ t := fun h => absurd hc (nI_nlt h (by omega))
    refine lv_iconst (v := 0) hx hb dX3_contains_20 (by decide) ?_
    refine kend_z S hr hlocks hS ⟨by rw [decide_eq_false h1]; rfl, rfl⟩ (Or.inl rfl) dX3_contains_21
  · have h1 : σ 41 i ≤ t := by
      rcases Nat.lt_or_ge t (σ 41 i) with h | h
      · exact absurd (nI_lt h (by omega)) hc
      · exact h
    refine lv_iload_n hx hb dX3_contains_8 rfl (lv_at hl 1 rfl) ?_
    refine lv_aload_n hx hb dX3_contains_9 rfl (lv_at hl 0 rfl) ?_
    refine kr_get (T := TX3) (N := 3) hx hb hts hown hK (hw.lv 8 i hi) rfl kin_X3_contains_X3 2 (by decide) (by decide +kernel) rfl dX3_contains_10 ?_
    refine lv_icmp_gt (tgt := 20) hx hb dX3_contains_13 (by decide) (fun hc2 => ?_) (fun hc2 => ?_)
    · have h2 : ¬ t ≤ σ 42 i := fun h => absurd hc2 (nI_nlt h (by omega))
      refine lv_iconst (v := 0) hx hb dX3_contains_20 (by decide) ?_
      refine kend_z S hr hlocks hS ⟨by rw [decide_eq_true h1, decide_eq_false h2]; rfl, rfl⟩ (Or.inl rfl) dX3_contains_21
    · have h2 : t ≤ σ 42 i := by
        rcases Nat.lt_or_ge (σ 42 i) t with h | h
        · exact absurd (nI_lt h (by omega)) hc2
        · exact h
      refine lv_iconst (v := 1) hx hb dX3_contains_16 (by decide) ?_
      refine lv_goto (tgt := 21) hx hb dX3_contains_17 (by decide) ?_
      refine kend_z S hr hlocks hS ⟨by rw [decide_eq_true h1, decide_eq_true h2]; rfl, rfl⟩ (Or.inr rfl) dX3_contains_21
theorem kin_X4_isMaintained_X4 : ∀ w ∈ wsX40, w ∈ wsX4_isMaintained := by decide +kernel
theorem kin_X4_isMaintained_X3 : ∀ w ∈ wsX30, w ∈ wsX4_isMaintained := by decide +kernel
theorem kin_X4_isMaintained_X1 : ∀ w ∈ wsX10, w ∈ wsX4_isMaintained := by decide +kernel
set_option maxHeartbeats 4000000 in
set_option maxRecDepth 100000 in
theorem cc_mnt (ε : kEnv) (l : Launch) {A : Nat → Prop} {ad : Nat → Nat → Nat} {σ : kS} {H : Heap} {i : Nat} (hw : kW ε A ad σ H) (hB : kB σ) (hi : i < σ 2 0) : kPi ε l yX4_isMaintained wsX4_isMaintained ({ frames := 3, cells := 0, slots := 0, locals := 64 }) [.ref (ad 0 0), .ref (ad 4 i)] H (bI (kMnt σ i (σ 3 0))) := by
  refine kof (cc := cX4_isMaintained) (maxL := 4) (ret := (some .boolean)) (by decide) rfl (Nat.le_of_ble_eq_true rfl) ?_
  intro p e s m below meth c ls S hr hlocks hin hH hE hl
  have S : CallFix p m c cX4_isMaintained 4 s _ wsX4_isMaintained RX4 := S
  have hx := S.1
  have hb := S.2.1
  have hown : s.vm.findClass RX4 = some m.cls := S.2.2.2.1
  have hts := S.2.2.2.2
  have hK := hE.1
  have hS : va_S kNo s.heap H [] := by rw [hH]; exact va_S.rf
  have hAb : ∀ q, kNo q → kHi ε q := fun _ h => h.elim
  have hnR := hB.nR
  have hnC := hB.nC
  have hnW := hB.nW
  have hnA := hB.nA
  have hmn := hB.min
  have hl : lv_has ls 4 [(0, .ref (ad 0 0)), (1, .ref (ad 4 i))] := hl
  refine lv_iconst (v := 0) hx hb dX4_isMaintained_0 (by decide) ?_
  refine lv_istore_n (lv' := [(2, .int 0), (0, .ref (ad 0 0)), (1, .ref (ad 4 i))]) hx hb dX4_isMaintained_1 rfl hl (by decide) rfl (fun ls hl => ?_)
  suffices K : ∀ (n k : Nat) (locs : List Loc) (ls : Array Slot), k + n = σ 3 0 → kMnt σ i k = false → va_S kNo s.heap H locs → lv_has ls 4 [(2, .int (nI k)), (0, .ref (ad 0 0)), (1, .ref (ad 4 i))] → W p l e ({ frames := 3, cells := 0, slots := 0, locals := 64 }) s m [.ref (ad 0 0), .ref (ad 4 i)].toArray below meth c H locs 0 0 (MQ below (kQi (fun r9 H9 => r9 = bI (kMnt σ i (σ 3 0)) ∧ H9 = H) kNo) [.ref (ad 0 0), .ref (ad 4 i)].toArray s 0 0 kNo) (F0 m 2 ls []) from K (σ 3 0) 0 _ _ (Nat.zero_add _) (rfl) hS (lv_sub hl [0, 1, 2] rfl)
  clear hl hS
  intro n
  induction n with
  | zero =>
    intro k locs ls hkn hm hS hl
    have hkN : k = σ 3 0 := hkn
    clear hkn
    refine lv_iload_n hx hb dX4_isMaintained_2 rfl (lv_at hl 0 rfl) ?_
    refine lv_aload_n hx hb dX4_isMaintained_3 rfl (lv_at hl 1 rfl) ?_
    refine kr_get (T := TX4) (N := 7) hx hb hts hown hK (hw.lv 0 0 (rfl : (0 : Nat) = 0)) rfl kin_X4_isMaintained_X4 2 (by decide) (by decide +kernel) rfl dX4_isMaintained_4 ?_
    refine kgo_pi (v := nI (σ 3 0)) (kc_V (As := []) (rest := [.int (nI k)]) S hE hS hAb (kw_size l hw 2 (by decide)) (cwV 0 hts gX4_isMaintained_Jx4a65c_size_8abf5 rfl rfl rfl (by decide +kernel) ⟨Nat.le_of_ble_eq_true rfl, Nat.le_of_ble_eq_true rfl⟩) (hw.lv 1 2 (by decide : (2 : Nat) < 4)) rfl rfl hl.1 rfl (Nat.le_of_ble_eq_true rfl) dX4_isMaintained_7 ⟨Nat.zero_le _, Nat.zero_le _⟩) hS (fun locs hS => ?_)
    refine lv_icmp_ge (tgt := 55) hx hb dX4_isMaintained_10 (by decide) (fun _ => ?_) (fun hc => absurd (by rw [hkN]; exact Int32.le_refl _) hc)
    refine lv_iconst (v := 0) hx hb dX4_isMaintained_55 (by decide) ?_
    refine kend_z S hr hlocks hS ⟨by rw [← hkN, hm]; rfl, rfl⟩ (Or.inl rfl) dX4_isMaintained_56
  | succ n ih =>
    intro k locs ls hkn hm hS hl
    have hlt : k < σ 3 0 := by omega
    have hw2 := hB.wn k hlt
    have h12 := hB.nW
    have h8 := hB.c8 hi
    refine lv_iload_n hx hb dX4_isMaintained_2 rfl (lv_at hl 0 rfl) ?_
    refine lv_aload_n hx hb dX4_isMaintained_3 rfl (lv_at hl 1 rfl) ?_
    refine kr_get (T := TX4) (N := 7) hx hb hts hown hK (hw.lv 0 0 (rfl : (0 : Nat) = 0)) rfl kin_X4_isMaintained_X4 2 (by decide) (by decide +kernel) rfl dX4_isMaintained_4 ?_
    refine kgo_pi (v := nI (σ 3 0)) (kc_V (As := []) (rest := [.int (nI k)]) S hE hS hAb (kw_size l hw 2 (by decide)) (cwV 0 hts gX4_isMaintained_Jx4a65c_size_8abf5 rfl rfl rfl (by decide +kernel) ⟨Nat.le_of_ble_eq_true rfl, Nat.le_of_ble_eq_true rfl⟩) (hw.lv 1 2 (by decide : (2 : Nat) < 4)) rfl rfl hl.1 rfl (Nat.le_of_ble_eq_true rfl) dX4_isMaintained_7 ⟨Nat.zero_le _, Nat.zero_le _⟩) hS (fun locs hS => ?_)
    refine lv_icmp_ge (tgt := 55) hx hb dX4_isMaintained_10 (by decide) (fun hc => absurd hc (nI_ge hlt (by omega))) (fun _ => ?_)
    refine lv_aload_n hx hb dX4_isMaintained_13 rfl (lv_at hl 1 rfl) ?_
    refine kr_get (T := TX4) (N := 7) hx hb hts hown hK (hw.lv 0 0 (rfl : (0 : Nat) = 0)) rfl kin_X4_isMaintained_X4 2 (by decide) (by decide +kernel) rfl dX4_isMaintained_14 ?_
    refine lv_iload_n hx hb dX4_isMaintained_17 rfl (lv_at hl 0 rfl) ?_
    refine kgo_pr (v := ad 8 k) (kc_V (As := [.int (nI k)]) (rest := []) S hE hS hAb (kw_get l hw hB 2 (by decide) (j := k) (x := ad 8 k) hlt rfl) (cwV 1 hts gX4_isMaintained_Jx4a65c_get_915e3 rfl rfl rfl (by decide +kernel) ⟨Nat.le_of_ble_eq_true rfl, Nat.le_of_ble_eq_true rfl⟩) (hw.lv 1 2 (by decide : (2 : Nat) < 4)) rfl rfl hl.1 rfl (Nat.le_of_ble_eq_true rfl) dX4_isMaintained_18 ⟨Nat.zero_le _, Nat.zero_le _⟩) hS (fun locs hS => ?_)
    refine kr_cast (T := TX3) (N := 3) hx hb hts hown hK (hw.lv 8 k hlt) rfl (by decide +kernel) dX4_isMaintained_21 ?_
    refine lv_astore_n (lv' := [(3, .ref (ad 8 k)), (2, .int (nI k)), (0, .ref (ad 0 0)), (1, .ref (ad 4 i))]) hx hb dX4_isMaintained_24 rfl hl (by decide) rfl (fun ls hl => ?_)
    refine lv_aload_n hx hb dX4_isMaintained_25 rfl (lv_at hl 0 rfl) ?_
    refine kr_get (T := TX3) (N := 3) hx hb hts hown hK (hw.lv 8 k hlt) rfl kin_X4_isMaintained_X3 0 (by decide) (by decide +kernel) rfl dX4_isMaintained_26 ?_
    refine lv_aload_n hx hb dX4_isMaintained_29 rfl (lv_at hl 3 rfl) ?_
    refine kr_get (T := TX1) (N := 13) hx hb hts hown hK (hw.lv 4 i hi) rfl kin_X4_isMaintained_X1 0 (by decide) (by decide +kernel) rfl dX4_isMaintained_30 ?_
    refine lv_icmp_ne (tgt := 49) hx hb dX4_isMaintained_33 (by decide) (fun hc => ?_) (fun hc => ?_)
    · have he : (σ 40 k == i) = false := by simpa using fun h : σ 40 k = i => hc (by rw [h])
      refine lv_iinc (v := nI (k + 1)) (lv' := [(2, .int (nI (k + 1))), (3, .ref (ad 8 k)), (0, .ref (ad 0 0)), (1, .ref (ad 4 i))]) hx hb dX4_isMaintained_49 hl (k := 1) rfl (nI_1 k) (by decide) rfl (fun ls hl => ?_)
      refine lv_goto (tgt := 2) hx hb dX4_isMaintained_52 (by decide) ?_
      exact ih (k + 1) _ _ (by omega) (by show (kMnt σ i k || (σ 40 k == i && decide (σ 41 k ≤ σ 0 0) && decide (σ 0 0 ≤ σ 42 k))) = false; rw [hm, he]; rfl) hS (lv_sub hl [0, 2, 3] rfl)
    · have he : (σ 40 k == i) = true := by simpa using (nI_eq (by omega) (by omega)).mp hc
      refine lv_aload_n hx hb dX4_isMaintained_36 rfl (lv_at hl 0 rfl) ?_
      refine lv_aload_n hx hb dX4_isMaintained_37 rfl (lv_at hl 2 rfl) ?_
      refine kr_get (T := TX4) (N := 7) hx hb hts hown hK (hw.lv 0 0 (rfl : (0 : Nat) = 0)) rfl kin_X4_isMaintained_X4 6 (by decide) (by decide +kernel) rfl dX4_isMaintained_38 ?_
      refine kgo_pi (v := bI (decide (σ 41 k ≤ σ 0 0) && decide (σ 0 0 ≤ σ 42 k))) (kc_V (As := [.int (nI (σ 0 0))]) (rest := []) S hE hS hAb (cc_contains ε l hw hB hlt hB.min) (cwV 1 hts gX4_isMaintained_X3_contains rfl rfl rfl (by decide +kernel) ⟨Nat.le_of_ble_eq_true rfl, Nat.le_of_ble_eq_true rfl⟩) (hw.lv 8 k hlt) rfl rfl hl.1 rfl (Nat.le_of_ble_eq_true rfl) dX4_isMaintained_41 ⟨Nat.zero_le _, Nat.zero_le _⟩) hS (fun locs hS => ?_)
      refine lv_if_eq (tgt := 49) hx hb dX4_isMaintained_44 (by decide) (fun hc2 => ?_) (fun hc2 => ?_)
      · refine lv_iinc (v := nI (k + 1)) (lv' := [(2, .int (nI (k + 1))), (3, .ref (ad 8 k)), (0, .ref (ad 0 0)), (1, .ref (ad 4 i))]) hx hb dX4_isMaintained_49 hl (k := 1) rfl (nI_1 k) (by decide) rfl (fun ls hl => ?_)
        refine lv_goto (tgt := 2) hx hb dX4_isMaintained_52 (by decide) ?_
        exact ih (k + 1) _ _ (by omega) (by show (kMnt σ i k || (σ 40 k == i && decide (σ 41 k ≤ σ 0 0) && decide (σ 0 0 ≤ σ 42 k))) = false; rw [hm, he, Bool.true_and, bI_eq0.mp hc2]; rfl) hS (lv_sub hl [0, 2, 3] rfl)
      · have hy : kMnt σ i (k + 1) = true := by show (kMnt σ i k || (σ 40 k == i && decide (σ 41 k ≤ σ 0 0) && decide (σ 0 0 ≤ σ 42 k))) = true; rw [hm, he, Bool.true_and, bI_ne0.mp hc2]; rfl
        refine lv_iconst (v := 1) hx hb dX4_isMaintained_47 (by decide) ?_
        refine kend_z S hr hlocks hS ⟨by rw [kMnt_up hy (by omega)]; rfl, rfl⟩ (Or.inr rfl) dX4_isMaintained_48
