/-! ===== the law's loop ===== -/
theorem kNv_n {n : Nat} {σ τ : kS} (h : kNv n σ τ) : kNv (n + 1) σ τ := by
  obtain ⟨hR, hB, hmB, hZ, ⟨M, hP⟩, hC, ht⟩ := h
  exact ⟨hR, hB, hmB, hZ, ⟨M, kPh_up hP⟩, hC, by omega⟩
theorem k31 (x : Int32) : ∃ j : Nat, j < 32 ∧ x &&& 31 = nI j := by
  refine ⟨(x &&& 31).toBitVec.toNat, ?_, ?_⟩
  · have h : (x &&& 31).toBitVec.toNat = x.toBitVec.toNat &&& 31 := by
      rw [Int32.toBitVec_and, BitVec.toNat_and]
      rfl
    rw [h]
    exact Nat.lt_of_le_of_lt Nat.and_le_right (by decide)
  · apply Int32.toBitVec_inj.mp
    show _ = (Int32.ofNat _).toBitVec
    rw [Int32.toBitVec_ofNat']
    simp
theorem kgt {L i : Nat} (hL : L ≤ 2560) (hi : i ≤ 2560) : nI L - 5 < nI i ↔ L < i + 5 := by
  rcases Nat.lt_or_ge L 5 with h | h
  · refine ⟨fun _ => by omega, fun _ => ?_⟩
    have h2 : ∀ k, k < 5 → nI k - 5 < 0 := by decide
    exact Int32.lt_iff_toInt_lt.mpr (Int.lt_of_lt_of_le (Int32.lt_iff_toInt_lt.mp (h2 L h)) (by rw [nI_toInt (by omega)]; show (0 : Int) ≤ i; omega))
  · rw [show nI L - 5 = nI (L - 5) from ksub (a := 5) (b := L) h, nI_ltI (by omega) (by omega)]
    omega
theorem kW.wk {ε : kEnv} {A A' : Nat → Prop} {ad : Nat → Nat → Nat} {σ : kS} {H : Heap} (h : kW ε A ad σ H) (hA : ∀ k i, kLv σ k i → A' (ad k i)) : kW ε A' ad σ H := ⟨fun k i hi => ⟨(h.1 k i hi).1, hA k i hi⟩, h.2⟩
theorem kM.wk {ε : kEnv} {A A' : Nat → Prop} {bd : Nat → Nat} {τ : kS} {H : Heap} (h : kM ε A bd τ H) (hA : ∀ k, k < 23 → A' (bd k)) : kM ε A' bd τ H := ⟨fun k hk => ⟨(h.1 k hk).1, hA k hk⟩, h.2⟩
theorem kA1_hi {ε : kEnv} {a n q : Nat} (h : kA1 a n q) (h1 : ε.2.2.1 ≤ a) (h2 : ε.2.2.1 ≤ n) : kHi ε q := Or.elim (show q = a ∨ n ≤ q from h) (fun h => by show ε.2.2.1 ≤ q; omega) (fun h => Nat.le_trans h2 h)
theorem inlX4 : ∀ w ∈ wsX40, w ∈ wsL_law := fun _ h => List.mem_append_left _ (List.mem_append_left _ (List.mem_append_left _ (List.mem_append_left _ (List.mem_append_left _ (List.mem_append_left _ (List.mem_append_left _ (List.mem_append_left _ (List.mem_append_left _ (List.mem_append_left _ (List.mem_append_right _ h))))))))))
theorem inlX5 : ∀ w ∈ wsX50, w ∈ wsL_law := fun _ h => List.mem_append_left _ (List.mem_append_left _ (List.mem_append_left _ (List.mem_append_left _ (List.mem_append_left _ (List.mem_append_left _ (List.mem_append_left _ (List.mem_append_left _ (List.mem_append_left _ (List.mem_append_right _ h)))))))))
section KLOOP
variable {p : Program} {l : Launch} {e : Env} {s : State} {m : MethodId} {below : List Frame} {meth : Method} {c : Code} {Q : State → Prop}
variable {ε : kEnv} {A B : Nat → Prop} {o od b L : Nat} {xs : Nat → Int32}
set_option maxHeartbeats 4000000 in
set_option maxRecDepth 100000 in
theorem law_loop (S : CallFix p m c cL_law 8 s #[Value.ref b] wsL_law RL) (hE : kE ε s) (hX : va_X b L xs s s.heap) (hbl : b < s.heap.size) (hlo : ε.2.2.1 = s.heap.size) (hL : L ≤ 2560) (hap : kAp ε A B o od) (hst : l.stackTraces = false) (Kend : ∀ (H : Heap) (ls : Array Slot), W p l e room_1 s m #[Value.ref b] below meth c H [] 601024 7293034 Q (F0 m 1647 ls [.int 1])) : ∀ (f n : Nat), n + f = 513 → 5 * n ≤ L → n ≤ 512 → ∀ (x0 y0 : Nat) (σ τ : kS) (H : Heap) (locs : List Loc) (ls : Array Slot), kNv n σ τ → (∀ q, H.size ≤ q → A q) → kLw ε A B o od x0 y0 σ τ H → va_S (kHi ε) s.heap H locs → lv_has ls 8 [(0, .ref b), (1, .ref x0), (2, .ref y0), (3, .ref o), (4, .ref od), (5, .int (nI (5 * n)))] → W p l e room_1 s m #[Value.ref b] below meth c H locs (kCe n σ) (kSl n σ) Q (F0 m 28 ls []) := by
  have hx := S.1
  have hb := S.2.1
  have hbA : ¬ kHi ε b := by show ¬ ε.2.2.1 ≤ b; omega
  intro f
  induction f with
  | zero => intro n h1 _ h2; omega
  | succ f ih =>
    intro n hf h5 hn2 x0 y0 σ τ H locs ls hnv hA2 hlw hS hl
    obtain ⟨⟨ad, ea, hw⟩, ⟨bd, eb, hm⟩, hoJ, hoD⟩ := hlw
    subst ea
    subst eb
    have hbu := kbud hnv hn2
    refine lv_iload hx hb dL_law_28 (lv_at hl 5 rfl) ?_
    refine lv_aload_n hx hb dL_law_30 rfl (lv_at hl 0 rfl) ?_
    refine va_slen hx hb hX hbl hbA hS dL_law_31 ?_
    refine lv_iconst (v := 5) hx hb dL_law_32 (by decide) ?_
    refine lv_isub hx hb dL_law_33 ?_
    refine lv_icmp_gt (tgt := 1646) hx hb dL_law_34 (by decide) (fun hgt => ?_) (fun hgt => ?_)
    · refine lv_iconst (v := 1) hx hb dL_law_1646 (by decide) ?_
      refine va_forget (fun q hq => Nat.le_trans (Nat.le_of_eq hlo.symm) (hS.2.2 q hq)) ?_
      refine W.widen (k := 601024) (n := 7293034) hbu.1 hbu.2 ?_
      exact Kend _ _
    · have h5n : 5 * n + 5 ≤ L := by
        rcases Nat.lt_or_ge L (5 * n + 5) with h | h
        · exact absurd ((kgt hL (by omega)).mpr h) hgt
        · exact h
      have hn : n < 512 := by omega
      have KK : ∀ (σ' τ' : kS) (H' : Heap) (locs' : List Loc) (ls' : Array Slot), kNv (n + 1) σ' τ' → kLw ε A B o od (ad 0 0) (bd 0) σ' τ' H' → H.size ≤ H'.size → va_S (kHi ε) s.heap H' locs' → lv_has ls' 8 [(0, .ref b), (1, .ref (ad 0 0)), (2, .ref (bd 0)), (3, .ref o), (4, .ref od), (5, .int (nI (5 * n)))] → W p l e room_1 s m #[Value.ref b] below meth c H' locs' (kCe (n + 1) σ') (kSl (n + 1) σ') Q (F0 m 1640 ls' []) := by
        intro σ' τ' H' locs' ls hnv' hL' hz hS' hl
        refine lv_iinc (v := nI (5 * (n + 1))) (lv' := [(5, .int (nI (5 * (n + 1)))), (0, .ref b), (1, .ref (ad 0 0)), (2, .ref (bd 0)), (3, .ref o), (4, .ref od)]) hx hb dL_law_1640 hl (k := 5) rfl (by rw [show 5 * (n + 1) = 5 * n + 5 from rfl, ← nI_add]; rfl) (by decide) rfl (fun ls hl => ?_)
        refine lv_goto (tgt := 28) hx hb dL_law_1643 (by decide) ?_
        exact ih (n + 1) (by omega) (by omega) (by omega) _ _ σ' τ' H' locs' _ hnv' (fun q h => hA2 q (Nat.le_trans hz h)) hL' hS' (lv_sub hl [1, 2, 3, 4, 5, 0] rfl)
      refine lv_aload_n hx hb dL_law_37 rfl (lv_at hl 0 rfl) ?_
      refine lv_iload hx hb dL_law_38 (lv_at hl 5 rfl) ?_
      refine va_sld hx hb hX hbl hbA hS (vp_in_nI (by omega) (by omega)) dL_law_40 ?_
      refine lv_bipush (v := 31) hx hb dL_law_41 (by decide) ?_
      refine lv_iand hx hb dL_law_43 ?_
      obtain ⟨j, hj, ej⟩ := k31 (xs (nI (5 * n)).toNatClampNeg)
      refine kr_top ej ?_
      rcases (show j = 0 ∨ j = 1 ∨ j = 2 ∨ j = 3 ∨ j = 4 ∨ j = 5 ∨ j = 6 ∨ j = 7 ∨ j = 8 ∨ j = 9 ∨ j = 10 ∨ j = 11 ∨ j = 12 ∨ j = 13 ∨ j = 14 ∨ j = 15 ∨ j = 16 ∨ j = 17 ∨ j = 18 ∨ j = 19 ∨ j = 20 ∨ j = 21 ∨ j = 22 ∨ j = 23 ∨ 24 ≤ j by omega) with rfl | rfl | rfl | rfl | rfl | rfl | rfl | rfl | rfl | rfl | rfl | rfl | rfl | rfl | rfl | rfl | rfl | rfl | rfl | rfl | rfl | rfl | rfl | rfl | h24
      · refine lv_tableIn (off := 112) (tgt := 156) hx hb dL_law_44 (by decide) (by decide) rfl (by decide) ?_
        exact st_addRegion S hE hX hbl hlo hL h5n hap hst hnv hn hA2 hw hm hoJ hoD hS hl KK
      · refine lv_tableIn (off := 168) (tgt := 212) hx hb dL_law_44 (by decide) (by decide) rfl (by decide) ?_
        exact st_addCheck S hE hX hbl hlo hL h5n hap hst hnv hn hA2 hw hm hoJ hoD hS hl KK
      · refine lv_tableIn (off := 260) (tgt := 304) hx hb dL_law_44 (by decide) (by decide) rfl (by decide) ?_
        exact st_setDown S hE hX hbl hlo hL h5n hap hst hnv hn hA2 hw hm hoJ hoD hS hl KK
      · refine lv_tableIn (off := 363) (tgt := 407) hx hb dL_law_44 (by decide) (by decide) rfl (by decide) ?_
        exact st_setCut S hE hX hbl hlo hL h5n hap hst hnv hn hA2 hw hm hoJ hoD hS hl KK
      · refine lv_tableIn (off := 454) (tgt := 498) hx hb dL_law_44 (by decide) (by decide) rfl (by decide) ?_
        exact st_setQuorum S hE hX hbl hlo hL h5n hap hst hnv hn hA2 hw hm hoJ hoD hS hl KK
      · refine lv_tableIn (off := 522) (tgt := 566) hx hb dL_law_44 (by decide) (by decide) rfl (by decide) ?_
        exact st_addWindow S hE hX hbl hlo hL h5n hap hst hnv hn hA2 hw hm hoJ hoD hS hl KK
      · refine lv_tableIn (off := 602) (tgt := 646) hx hb dL_law_44 (by decide) (by decide) rfl (by decide) ?_
        exact st_endWindow S hE hX hbl hlo hL h5n hap hst hnv hn hA2 hw hm hoJ hoD hS hl KK
      · refine lv_tableIn (off := 658) (tgt := 702) hx hb dL_law_44 (by decide) (by decide) rfl (by decide) ?_
        exact st_pass S hE hX hbl hlo hL h5n hap hst hnv hn hA2 hw hm hoJ hoD hS hl KK
      · refine lv_tableIn (off := 714) (tgt := 758) hx hb dL_law_44 (by decide) (by decide) rfl (by decide) ?_
        exact st_minute S hE hX hbl hlo hL h5n hap hst hnv hn hA2 hw hm hoJ hoD hS hl KK
      · refine lv_tableIn (off := 727) (tgt := 771) hx hb dL_law_44 (by decide) (by decide) rfl (by decide) ?_
        exact st_failing S hE hX hbl hlo hL h5n hap hst hnv hn hA2 hw hm hoJ hoD hS hl KK
      · refine lv_tableIn (off := 783) (tgt := 827) hx hb dL_law_44 (by decide) (by decide) rfl (by decide) ?_
        exact st_nextProbe S hE hX hbl hlo hL h5n hap hst hnv hn hA2 hw hm hoJ hoD hS hl KK
      · refine lv_tableIn (off := 851) (tgt := 895) hx hb dL_law_44 (by decide) (by decide) rfl (by decide) ?_
        exact st_repetition S hE hX hbl hlo hL h5n hap hst hnv hn hA2 hw hm hoJ hoD hS hl KK
      · refine lv_tableIn (off := 919) (tgt := 963) hx hb dL_law_44 (by decide) (by decide) rfl (by decide) ?_
        exact st_vote S hE hX hbl hlo hL h5n hap hst hnv hn hA2 hw hm hoJ hoD hS hl KK
      · refine lv_tableIn (off := 987) (tgt := 1031) hx hb dL_law_44 (by decide) (by decide) rfl (by decide) ?_
        exact st_probes S hE hX hbl hlo hL h5n hap hst hnv hn hA2 hw hm hoJ hoD hS hl KK
      · refine lv_tableIn (off := 1043) (tgt := 1087) hx hb dL_law_44 (by decide) (by decide) rfl (by decide) ?_
        exact st_failures S hE hX hbl hlo hL h5n hap hst hnv hn hA2 hw hm hoJ hoD hS hl KK
      · refine lv_tableIn (off := 1099) (tgt := 1143) hx hb dL_law_44 (by decide) (by decide) rfl (by decide) ?_
        exact st_isBad S hE hX hbl hlo hL h5n hap hst hnv hn hA2 hw hm hoJ hoD hS hl KK
      · refine lv_tableIn (off := 1162) (tgt := 1206) hx hb dL_law_44 (by decide) (by decide) rfl (by decide) ?_
        exact st_verdict S hE hX hbl hlo hL h5n hap hst hnv hn hA2 hw hm hoJ hoD hS hl KK
      · refine lv_tableIn (off := 1218) (tgt := 1262) hx hb dL_law_44 (by decide) (by decide) rfl (by decide) ?_
        exact st_trusted S hE hX hbl hlo hL h5n hap hst hnv hn hA2 hw hm hoJ hoD hS hl KK
      · refine lv_tableIn (off := 1274) (tgt := 1318) hx hb dL_law_44 (by decide) (by decide) rfl (by decide) ?_
        exact st_alarms S hE hX hbl hlo hL h5n hap hst hnv hn hA2 hw hm hoJ hoD hS hl KK
      · refine lv_tableIn (off := 1287) (tgt := 1331) hx hb dL_law_44 (by decide) (by decide) rfl (by decide) ?_
        exact st_hasAlarm S hE hX hbl hlo hL h5n hap hst hnv hn hA2 hw hm hoJ hoD hS hl KK
      · refine lv_tableIn (off := 1350) (tgt := 1394) hx hb dL_law_44 (by decide) (by decide) rfl (by decide) ?_
        exact st_alarmCheck S hE hX hbl hlo hL h5n hap hst hnv hn hA2 hw hm hoJ hoD hS hl KK
      · refine lv_tableIn (off := 1406) (tgt := 1450) hx hb dL_law_44 (by decide) (by decide) rfl (by decide) ?_
        exact st_alarmRaised S hE hX hbl hlo hL h5n hap hst hnv hn hA2 hw hm hoJ hoD hS hl KK
      · refine lv_tableIn (off := 1462) (tgt := 1506) hx hb dL_law_44 (by decide) (by decide) rfl (by decide) ?_
        exact st_alarmClosed S hE hX hbl hlo hL h5n hap hst hnv hn hA2 hw hm hoJ hoD hS hl KK
      · refine lv_tableIn (off := 1518) (tgt := 1562) hx hb dL_law_44 (by decide) (by decide) rfl (by decide) ?_
        exact st_availability S hE hX hbl hlo hL h5n hap hst hnv hn hA2 hw hm hoJ hoD hS hl KK
      · refine lv_tableOut (tgt := 1640) hx hb dL_law_44 (Or.inr (by rw [nI_toInt (by omega)]; omega)) (by decide) ?_
        refine W.widen (k := kCe (n + 1) σ) (n := kSl (n + 1) σ) (by unfold kCe; omega) (by unfold kSl; omega) ?_
        exact KK σ τ H locs ls (kNv_n hnv) ⟨⟨ad, rfl, hw⟩, ⟨bd, rfl, hm⟩, hoJ, hoD⟩ (Nat.le_refl _) hS hl
set_option maxHeartbeats 4000000 in
set_option maxRecDepth 100000 in
theorem law_entry (S : CallFix p m c cL_law 8 s #[Value.ref b] wsL_law RL) (hE : kE ε s) (hX : va_X b L xs s s.heap) (hbl : b < s.heap.size) (hlo : ε.2.2.1 = s.heap.size) (hL : L ≤ 2560) (hst : l.stackTraces = false) (Kend : ∀ (H : Heap) (ls : Array Slot), W p l e room_1 s m #[Value.ref b] below meth c H [] 601024 7293034 Q (F0 m 1647 ls [.int 1])) {ls : Array Slot} (hl : lv_has ls 8 [(0, .ref b)]) : W p l e room_1 s m #[Value.ref b] below meth c s.heap [] 0 0 Q (F0 m 0 ls []) := by
  have hx := S.1
  have hb := S.2.1
  have hown : s.vm.findClass RL = some m.cls := S.2.2.2.1
  have hts := S.2.2.2.2
  have hK := hE.1
  have hAb : ∀ q, kHi ε q → kHi ε q := fun _ h => h
  have hS : va_S (kHi ε) s.heap s.heap [] := va_S.rf
  refine kr_new (T := TX4) (N := 7) (ci := 5) (fs := [.null, .null, .null, .null, .int 0, .int 0, .int 0]) hx hb hts hown hK hS rfl inlX4 tyX4 tyX4_ok (by decide +kernel) (by decide +kernel) (by decide +kernel) (dvX4) (Nat.le_of_ble_eq_true rfl) (Nat.le_of_ble_eq_true rfl) dL_law_0 (fun H1 hNH1 hx4 hS => ?_)
  have z1 := hNH1.1
  refine lv_dup hx hb dL_law_3 rfl ?_
  refine kgo_v (kc_I (As := []) (rest := [.ref s.heap.size]) S hE hS hAb (ci_mesh ε l (Nat.le_of_eq hlo) (by omega) hx4) (cwI 0 hts gL_law_X4_init rfl rfl rfl (hts (.initialized RX4) (by decide +kernel)) (hts (.methodLink RL 89 yX4_init) (by decide +kernel)) (hts (.instanceMethod yX4_init) (by decide +kernel)) rfl (by decide +kernel) ⟨Nat.le_of_ble_eq_true rfl, Nat.le_of_ble_eq_true rfl⟩) rfl hl.1 rfl (Nat.le_of_ble_eq_true rfl) dL_law_4 ⟨Nat.le_of_ble_eq_true rfl, Nat.le_of_ble_eq_true rfl⟩) hS (fun q h => kA1_hi h (Nat.le_of_eq hlo) (by omega)) (fun H2 locs hp zz2 qq2 hS => ?_)
  obtain ⟨q2, hw⟩ := hp
  refine lv_astore_n (lv' := [(1, .ref s.heap.size), (0, .ref b)]) hx hb dL_law_7 rfl hl (by decide) rfl (fun ls hl => ?_)
  refine kr_new (T := TX5) (N := 28) (ci := 6) (fs := [.int 0, .int 0, .null, .null, .null, .null, .null, .int 0, .null, .null, .null, .null, .null, .null, .null, .null, .null, .null, .null, .null, .int 0, .null, .null, .null, .int 0, .null, .null, .int 0]) hx hb hts hown hK hS rfl inlX5 tyX5 tyX5_ok (by decide +kernel) (by decide +kernel) (by decide +kernel) (dvX5) (Nat.le_of_ble_eq_true rfl) (Nat.le_of_ble_eq_true rfl) dL_law_8 (fun H3 hNH3 hx5 hS => ?_)
  have z3 := hNH3.1
  refine lv_dup hx hb dL_law_11 rfl ?_
  refine kgo_v (kc_I (As := []) (rest := [.ref H2.size]) S hE hS hAb (mi_model ε l (by omega) (by omega) hx5) (cwI 0 hts gL_law_X5_init rfl rfl rfl (hts (.initialized RX5) (by decide +kernel)) (hts (.methodLink RL 92 yX5_init) (by decide +kernel)) (hts (.instanceMethod yX5_init) (by decide +kernel)) rfl (by decide +kernel) ⟨Nat.le_of_ble_eq_true rfl, Nat.le_of_ble_eq_true rfl⟩) rfl hl.1 rfl (Nat.le_of_ble_eq_true rfl) dL_law_12 ⟨Nat.le_of_ble_eq_true rfl, Nat.le_of_ble_eq_true rfl⟩) hS (fun q h => kA1_hi h (by omega) (by omega)) (fun H4 locs hm zz4 qq4 hS => ?_)
  refine lv_astore_n (lv' := [(2, .ref H2.size), (1, .ref s.heap.size), (0, .ref b)]) hx hb dL_law_15 rfl hl (by decide) rfl (fun ls hl => ?_)
  refine lv_iconst (v := 1) hx hb dL_law_16 (by decide) ?_
  refine kr_newJ (N' := 1) hx hb hK hS (hts (.arrayClass .long) (by decide +kernel)) (by decide) rfl (by decide) (Nat.le_of_ble_eq_true rfl) (Nat.le_of_ble_eq_true rfl) dL_law_17 (fun H5 hN5 hJ hS => ?_)
  have z5 := hN5.1
  refine lv_astore_n (lv' := [(3, .ref H4.size), (2, .ref H2.size), (1, .ref s.heap.size), (0, .ref b)]) hx hb dL_law_19 rfl hl (by decide) rfl (fun ls hl => ?_)
  refine lv_iconst (v := 1) hx hb dL_law_20 (by decide) ?_
  refine kr_newD (N' := 1) hx hb hK hS (hts (.arrayClass .double) (by decide +kernel)) (by decide) rfl (by decide) (Nat.le_of_ble_eq_true rfl) (Nat.le_of_ble_eq_true rfl) dL_law_21 (fun H6 hN6 hD hS => ?_)
  have z6 := hN6.1
  refine lv_astore (lv' := [(4, .ref H5.size), (3, .ref H4.size), (2, .ref H2.size), (1, .ref s.heap.size), (0, .ref b)]) hx hb dL_law_23 hl (by decide) rfl (fun ls hl => ?_)
  refine lv_iconst (v := 0) hx hb dL_law_25 (by decide) ?_
  refine kr_top (y := nI (5 * 0)) (rfl) ?_
  refine lv_istore (lv' := [(5, .int (nI (5 * 0))), (4, .ref H5.size), (3, .ref H4.size), (2, .ref H2.size), (1, .ref s.heap.size), (0, .ref b)]) hx hb dL_law_26 hl (by decide) rfl (fun ls hl => ?_)
  have lw : ∀ k i, kLv k00 k i → s.heap.size ≤ kad0 ε s.heap.size q2 k i ∧ kad0 ε s.heap.size q2 k i < H2.size := fun k i h => ⟨Or.elim (show _ = s.heap.size ∨ H1.size ≤ _ from (hw.1 k i h).2) (fun h => Nat.le_of_eq h.symm) (fun h => by omega), va_at.lt (hw.1 k i h).1⟩
  have lm : ∀ k, k < 23 → H2.size ≤ kbd H2.size H3.size k ∧ kbd H2.size H3.size k < H4.size := fun k h => ⟨Or.elim (show _ = H2.size ∨ H3.size ≤ _ from (hm.1 k h).2) (fun h => Nat.le_of_eq h.symm) (fun h => by omega), va_at.lt (hm.1 k h).1⟩
  have hw := hw.keep (H1 := H3) (fun k i h => hNH3.2 _ (lw k i h).2)
  have hw := hw.keep (H1 := H4) (fun k i h => qq4 _ (by have := (lw k i h).2; omega) (fun h9 => by have := (lw k i h).2; exact Or.elim (show _ = H2.size ∨ H3.size ≤ _ from h9) (fun h => by omega) (fun h => by omega)))
  have hw := hw.keep (H1 := H5) (fun k i h => hN5.2 _ (by have := (lw k i h).2; omega))
  have hw := hw.keep (H1 := H6) (fun k i h => hN6.2 _ (by have := (lw k i h).2; omega))
  have hm := hm.keep (H1 := H5) (fun k h => hN5.2 _ (lm k h).2)
  have hm := hm.keep (H1 := H6) (fun k h => hN6.2 _ (by have := (lm k h).2; omega))
  have hJ := hN6.at hJ
  have hw := hw.wk (A' := fun q => (s.heap.size ≤ q ∧ q < H2.size) ∨ H5.size < q) (fun k i h => Or.inl (lw k i h))
  have hm := hm.wk (A' := fun q => H2.size ≤ q ∧ q < H4.size) lm
  have hap : kAp ε (fun q => (s.heap.size ≤ q ∧ q < H2.size) ∨ H5.size < q) (fun q => H2.size ≤ q ∧ q < H4.size) H4.size H5.size := by
    refine ⟨fun q h => ?_, fun q h => ?_, fun q h h2 => ?_, ⟨fun h => ?_, fun h => ?_, ?_⟩, ⟨fun h => ?_, fun h => ?_, ?_⟩, ?_⟩
    · show ε.2.2.1 ≤ q
      omega
    · show ε.2.2.1 ≤ q
      omega
    · omega
    · omega
    · omega
    · show ε.2.2.1 ≤ H4.size
      omega
    · omega
    · omega
    · show ε.2.2.1 ≤ H5.size
      omega
    · omega
  refine W.widen (k := kCe 0 k00) (n := kSl 0 k00) (Nat.le_of_ble_eq_true rfl) (Nat.le_of_ble_eq_true rfl) ?_
  exact law_loop S hE hX hbl hlo hL hap hst Kend 513 0 rfl (Nat.zero_le _) (by decide) _ _ k00 kt0 H6 _ _ ⟨kR_start, kB_start, mB_start, kZ_start, ⟨0, kPh_start⟩, fun c => ⟨Nat.le_refl _, Nat.le_refl _⟩, Nat.le_refl _⟩ (fun q h => Or.inr (by omega)) ⟨⟨_, rfl, hw⟩, ⟨_, rfl, hm⟩, ⟨_, hJ⟩, ⟨_, hD⟩⟩ hS (lv_sub hl [5, 4, 3, 2, 1, 0] rfl)
end KLOOP
