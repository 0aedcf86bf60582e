/-! ===== the law's loop: a drawn mesh that stays quiet ===== -/
theorem kmI {n : Nat} : nI n - 1 = mI n := by
  cases n with
  | zero => decide
  | succ n => exact nI_pred n
theorem kmI_lt {n : Nat} (h : n ≤ 6) : mI n < 6 := by
  have h1 : ∀ n, n < 7 → mI n < 6 := by decide
  exact h1 n (by omega)
theorem kus (y : Int32) : ∃ X : Nat, X < 8388608 ∧ (y.toUInt32 >>> ((9 : Int32).toUInt32 &&& Int32.toUInt32 31)).toInt32 = nI X := by
  refine ⟨y.toUInt32.toNat >>> 9, ?_, ?_⟩
  · rw [Nat.shiftRight_eq_div_pow]
    have := y.toUInt32.toNat_lt
    omega
  · have e9 : (9 : Int32).toUInt32 &&& Int32.toUInt32 31 = 9 := by decide
    rw [e9]
    apply Int32.toBitVec_inj.mp
    apply BitVec.eq_of_toNat_eq
    show ((y.toUInt32 >>> 9).toNat) = (Int32.ofNat _).toBitVec.toNat
    rw [Int32.toBitVec_ofNat', BitVec.toNat_ofNat]
    have h2 : (y.toUInt32 >>> 9).toNat = y.toUInt32.toNat >>> 9 := by
      rw [UInt32.toNat_shiftRight]
      rfl
    rw [h2, Nat.mod_eq_of_lt]
    rw [Nat.shiftRight_eq_div_pow]
    have := y.toUInt32.toNat_lt
    omega
theorem kgc_le (n : Nat) : kgc n ≤ 1 := by unfold kgc; split <;> omega
theorem kgs_le (n : Nat) : kgs n ≤ n + 1 + (n + 1) / 2 + 10 := by
  have := kcap_up (n + 1)
  unfold kgs
  split <;> omega
/-- addRegion of a parent that is there, or of none -/
theorem al_addR (ε : kEnv) (l : Launch) {A : Nat → Prop} {ad : Nat → Nat → Nat} {σ : kS} {H : Heap} (n : Nat) (hAb : ∀ q, A q → kHi ε q) (hw : kW ε A ad σ H) (hB : kB σ) (hn : n ≤ σ 1 0) (hn6 : σ 1 0 < 6) (hz0 : kZ0 σ) (hA2 : ∀ q, H.size ≤ q → A q) : kMi ε l yX4_addRegion wsX4_addRegion ({ frames := 7, cells := 1 + kgc (σ 1 0), slots := 4 + kgs (σ 1 0), locals := 220 }) [.ref (ad 0 0), .int (mI n)] H A (1 + kgc (σ 1 0)) (4 + kgs (σ 1 0)) (fun v H' => v = nI (σ 1 0) ∧ ∃ ad', ad' 0 0 = ad 0 0 ∧ kW ε A ad' (kAddR σ n) H') := by
  cases n with
  | zero => exact cp_addRegion0 ε l hAb hw hB hn6 hz0 hA2
  | succ r => exact cp_addRegionS ε l hAb hw hB (by omega) hn6 hz0 hA2
theorem xl_addR (ε : kEnv) (l : Launch) {A : Nat → Prop} {ad : Nat → Nat → Nat} {σ : kS} {H : Heap} (n : Nat) (hw : kW ε A ad σ H) (hB : kB σ) (hst : l.stackTraces = false) (hn : n ≤ σ 1 0) (h6 : 6 ≤ σ 1 0) : kX ε l yX4_addRegion wsX4_addRegion ({ frames := 7, cells := 1, slots := 6, locals := 120 }) [.ref (ad 0 0), .int (mI n)] H "java/lang/IllegalStateException" := by
  cases n with
  | zero => exact cpx_addRegion2a ε l hw hB hst h6
  | succ r => exact cpx_addRegion2b ε l hw hB hst (by omega) h6
theorem kroom1 {k x : Nat} (hk : k < 13) (hx : x ≤ 200) : 1000 + 200 * k + x ≤ room_1.cells := by
  show 1000 + 200 * k + x ≤ 681719
  omega
theorem kroom1b {k x y : Nat} (hk : k < 13) (hx : x + y ≤ 200) : 1000 + 200 * k + x + y ≤ room_1.cells := by
  show 1000 + 200 * k + x + y ≤ 681719
  omega
theorem kroom2b {k x y : Nat} (hk : k < 13) (hx : x + y ≤ 2000) : 5000 + 2000 * k + x + y ≤ room_1.slots := by
  show 5000 + 2000 * k + x + y ≤ 7056466
  omega
theorem kroom2 {k x : Nat} (hk : k < 13) (hx : x ≤ 2000) : 5000 + 2000 * k + x ≤ room_1.slots := by
  show 5000 + 2000 * k + x ≤ 7056466
  omega
section KLAW
variable {p : Program} {l : Launch} {e : Env} {s : State} {m : MethodId} {below : List Frame} {meth : Method} {c : Code} {H : Heap} {locs : List Loc} {Q : State → Prop} {ls : Array Slot}
variable {ε : kEnv} {b L k X : Nat} {xs : Nat → Int32} {ad : Nat → Nat → Nat} {σ : kS}
set_option maxHeartbeats 4000000 in
set_option maxRecDepth 100000 in
theorem lw_1 (S : CallFix p m c cL_law 4 s #[Value.ref b] wsL_law RL) (hE : kE ε s) (hlo : ε.2.2.1 = s.heap.size) (hst : l.stackTraces = false) (hk : k < 13) (hX9 : va_X b L xs s s.heap) (hbl : b < s.heap.size) (hL : L ≤ 260) (hS : va_S (kHi ε) s.heap H locs) (hl : lv_has ls 4 [(0, .ref b), (1, .ref (ad 0 0)), (2, .int (nI k))])
    (KK : ∀ (X : Nat) (ls' : Array Slot), X < 8388608 → lv_has ls' 4 [(3, .int (nI X)), (0, .ref b), (1, .ref (ad 0 0)), (2, .int (nI k))] → W p l e room_1 s m #[Value.ref b] below meth c H locs (1000 + 200 * k + 0) (5000 + 2000 * k + 0) Q (F0 m 52 ls' [])) : W p l e room_1 s m #[Value.ref b] below meth c H locs (1000 + 200 * k + 0) (5000 + 2000 * k + 0) Q (F0 m 24 ls []) := by
  have hx := S.1
  have hb := S.2.1
  have hown : s.vm.findClass RL = some m.cls := S.2.2.2.1
  have hts := S.2.2.2.2
  have hK := hE.1
  have hAb : ∀ q, kHi ε q → kHi ε q := fun _ h => h
  have hbA : ¬ kHi ε b := by show ¬ ε.2.2.1 ≤ b; omega
  refine lv_iload_n hx hb dL_law_24 rfl (lv_at hl 2 rfl) ?_
  refine lv_bipush (v := 13) hx hb dL_law_25 (by decide) ?_
  refine lv_icmp_ge (tgt := 252) hx hb dL_law_27 (by decide) (fun hc => absurd hc (nI_ge (a := k) (b := 13) (by omega) (by omega))) (fun _ => ?_)
  refine lv_aload_n hx hb dL_law_30 rfl (lv_at hl 0 rfl) ?_
  refine va_slen hx hb hX9 hbl hbA hS dL_law_31 ?_
  refine lv_if_ne (tgt := 42) hx hb dL_law_32 (by decide) (fun hz => ?_) (fun hz => ?_)
  · have hL0 : 0 < L := by
      rcases Nat.eq_zero_or_pos L with h | h
      · subst h; exact absurd rfl hz
      · exact h
    refine lv_aload_n hx hb dL_law_42 rfl (lv_at hl 0 rfl) ?_
    refine lv_iload_n hx hb dL_law_43 rfl (lv_at hl 2 rfl) ?_
    refine lv_aload_n hx hb dL_law_44 rfl (lv_at hl 0 rfl) ?_
    refine va_slen hx hb hX9 hbl hbA hS dL_law_45 ?_
    refine lv_irem hx hb dL_law_46 (nI_ne0 hL0 (by omega)) ?_
    refine kr_top (y := nI (k % L)) (pk_rem (a := k) (d := L) (by omega) hL0 (by omega)) ?_
    have hkL := Nat.mod_lt k hL0
    refine va_sld hx hb hX9 hbl hbA hS (vp_in_nI hkL (by omega)) dL_law_47 ?_
    refine lv_bipush (v := 9) hx hb dL_law_48 (by decide) ?_
    obtain ⟨X, hXX, eX⟩ := kus (xs (nI (k % L)).toNatClampNeg)
    refine lv_iushr hx hb dL_law_50 eX ?_
    refine lv_istore_n (lv' := [(3, .int (nI X)), (0, .ref b), (1, .ref (ad 0 0)), (2, .int (nI k))]) hx hb dL_law_51 rfl hl (by decide) rfl (fun ls hl => ?_)
    exact KK X ls hXX (lv_sub hl [0, 1, 2, 3] rfl)
  · refine lv_bipush (v := 17) hx hb dL_law_35 (by decide) ?_
    refine lv_iload_n hx hb dL_law_37 rfl (lv_at hl 2 rfl) ?_
    refine lv_imul hx hb dL_law_38 ?_
    refine kr_top (y := nI (17 * k)) (show nI 17 * nI k = nI (17 * k) from pk_mul 17 k) ?_
    refine lv_goto (tgt := 51) hx hb dL_law_39 (by decide) ?_
    have hXX : 17 * k < 8388608 := by omega
    generalize 17 * k = X at hXX ⊢
    refine lv_istore_n (lv' := [(3, .int (nI X)), (0, .ref b), (1, .ref (ad 0 0)), (2, .int (nI k))]) hx hb dL_law_51 rfl hl (by decide) rfl (fun ls hl => ?_)
    exact KK X ls hXX (lv_sub hl [0, 1, 2, 3] rfl)
set_option maxHeartbeats 4000000 in
set_option maxRecDepth 100000 in
theorem lw_2 (S : CallFix p m c cL_law 4 s #[Value.ref b] wsL_law RL) (hE : kE ε s) (hlo : ε.2.2.1 = s.heap.size) (hst : l.stackTraces = false) (hk : k < 13) {R C Wn T : Nat} (hR : R = min k 6) (hli : kLi R C Wn T σ) (hw : kW ε (kHi ε) ad σ H) (hS : va_S (kHi ε) s.heap H locs) (hXX : X < 8388608) (hl : lv_has ls 4 [(3, .int (nI X)), (0, .ref b), (1, .ref (ad 0 0)), (2, .int (nI k))])
    (KK : ∀ (σ' : kS) (ad' : Nat → Nat → Nat) (H' : Heap) (locs' : List Loc) (ls' : Array Slot), kLi (min (k + 1) 6) (C) (Wn) (T) σ' → kW ε (kHi ε) ad' σ' H' → va_S (kHi ε) s.heap H' locs' → lv_has ls' 4 [(3, .int (nI X)), (0, .ref b), (1, .ref (ad' 0 0)), (2, .int (nI k))] → W p l e room_1 s m #[Value.ref b] below meth c H' locs' (1000 + 200 * k + 3) (5000 + 2000 * k + 30) Q (F0 m 104 ls' [])) : W p l e room_1 s m #[Value.ref b] below meth c H locs (1000 + 200 * k + 0) (5000 + 2000 * k + 0) Q (F0 m 52 ls []) := by
  have hx := S.1
  have hb := S.2.1
  have hown : s.vm.findClass RL = some m.cls := S.2.2.2.1
  have hts := S.2.2.2.2
  have hK := hE.1
  have hAb : ∀ q, kHi ε q → kHi ε q := fun _ h => h
  have hA2 : ∀ q, H.size ≤ q → kHi ε q := fun q h => by
    have := hS.1
    show ε.2.2.1 ≤ q
    omega
  obtain ⟨hB, hZ, hQ, h1, h2, h3, h0⟩ := id hli
  have K83 : ∀ (n : Nat) (ls : Array Slot), n ≤ R → lv_has ls 4 [(3, .int (nI X)), (0, .ref b), (1, .ref (ad 0 0)), (2, .int (nI k))] → W p l e room_1 s m #[Value.ref b] below meth c H locs (1000 + 200 * k + 0) (5000 + 2000 * k + 0) Q (F0 m 83 ls [.int (mI n), .int 0, .ref (ad 0 0)]) := by
    clear hl
    intro n ls hn hl
    refine lv_iconst (v := 0) hx hb dL_law_83 (by decide) ?_
    refine lv_iconst (v := 0) hx hb dL_law_84 (by decide) ?_
    refine lv_iconst (v := 0) hx hb dL_law_85 (by decide) ?_
    by_cases hk6 : k < 6
    · refine kgo_i (kc_SW (As := [.ref (ad 0 0), .int 0, .int (mI n), .int 0, .int 0, .int 0]) (rest := []) S hE hS hAb (ay_addRegion ε l hw hAb (al_addR ε l n hAb hw hB (by omega) (by omega) hZ hA2)) (vx_cwSW 6 hts gL_law_L_act rfl rfl rfl (by decide +kernel) ⟨Nat.le_of_ble_eq_true rfl, Nat.le_of_ble_eq_true rfl⟩) rfl hl.1 rfl (Nat.le_of_ble_eq_true rfl) dL_law_86 ⟨kroom1 hk (by have := kgc_le (σ 1 0); omega), kroom2 hk (by have := kgs_le (σ 1 0); omega)⟩) hS (fun _ h => h) (fun r9 H1 locs hp hz1 hq hS => ?_)
      obtain ⟨e9, ad1, ea, hw⟩ := hp
      have hl : lv_has ls 4 [(3, .int (nI X)), (0, .ref b), (1, .ref (ad1 0 0)), (2, .int (nI k))] := by rw [ea]; exact hl
      refine W.widen (k := 1000 + 200 * k + 3) (n := 5000 + 2000 * k + 30) (by have := kgc_le (σ 1 0); omega) (by have := kgs_le (σ 1 0); omega) ?_
      refine kr_top (y := nI k) (by rw [e9, h1, hR, show min k 6 = k by omega]) ?_
      refine lv_iload_n hx hb dL_law_89 rfl (lv_at hl 3 rfl) ?_
      refine lv_bipush (v := 6) hx hb dL_law_90 (by decide) ?_
      refine lv_icmp_ge (tgt := 99) hx hb dL_law_92 (by decide) (fun hc => absurd hc (nI_ge (a := k) (b := 6) (by omega) (by omega))) (fun _ => ?_)
      refine lv_iload_n hx hb dL_law_95 rfl (lv_at hl 3 rfl) ?_
      refine lv_goto (tgt := 101) hx hb dL_law_96 (by decide) ?_
      refine lv_icmp_ne (tgt := 244) hx hb dL_law_101 (by decide) (fun hc => absurd (rfl) hc) (fun _ => ?_)
      have hli9 : kLi (min (k + 1) 6) C Wn T (kAddR σ n) := by
        have := kLi_addR hli hn (by omega)
        rw [show min (k + 1) 6 = R + 1 by omega]
        exact this
      exact KK _ _ _ _ _ hli9 hw hS hl
    · refine kgo_i (kc_SW (As := [.ref (ad 0 0), .int 0, .int (mI n), .int 0, .int 0, .int 0]) (rest := []) S hE hS hAb (ax_addRegion3 ε l hw (xl_addR ε l n hw hB hst (by omega) (by omega))) (vx_cwSW 6 hts gL_law_L_act rfl rfl rfl (by decide +kernel) ⟨Nat.le_of_ble_eq_true rfl, Nat.le_of_ble_eq_true rfl⟩) rfl hl.1 rfl (Nat.le_of_ble_eq_true rfl) dL_law_86 ⟨kroom1b (x := 0) hk (by omega), kroom2b (x := 0) hk (by omega)⟩) hS (fun _ h => h.elim) (fun r9 H1 locs e9 hz1 hq hS => ?_)
      have hw := hw.keep (fun k j hk => hq _ (va_at.lt (hw.1 k j hk).1) (fun h => h))
      refine kr_top e9 ?_
      refine W.widen (k := 1000 + 200 * k + 3) (n := 5000 + 2000 * k + 30) (by omega) (by omega) ?_
      refine lv_iload_n hx hb dL_law_89 rfl (lv_at hl 3 rfl) ?_
      refine lv_bipush (v := 6) hx hb dL_law_90 (by decide) ?_
      refine lv_icmp_ge (tgt := 99) hx hb dL_law_92 (by decide) (fun _ => ?_) (fun hc => absurd (nI_le (a := 6) (b := k) (by omega) (by omega)) hc)
      refine lv_bipush (v := -43) hx hb dL_law_99 (by decide) ?_
      refine lv_icmp_ne (tgt := 244) hx hb dL_law_101 (by decide) (fun hc => absurd (rfl) hc) (fun _ => ?_)
      have hli9 : kLi (min (k + 1) 6) C Wn T σ := by
        rw [show min (k + 1) 6 = R by omega]
        exact hli
      exact KK _ _ _ _ _ hli9 hw hS hl
  have hmod : X % (k + 1) < k + 1 := Nat.mod_lt _ (by omega)
  refine lv_aload_n hx hb dL_law_52 rfl (lv_at hl 2 rfl) ?_
  refine lv_iconst (v := 0) hx hb dL_law_53 (by decide) ?_
  refine lv_iload_n hx hb dL_law_54 rfl (lv_at hl 0 rfl) ?_
  refine lv_iload_n hx hb dL_law_55 rfl (lv_at hl 3 rfl) ?_
  refine lv_iconst (v := 1) hx hb dL_law_56 (by decide) ?_
  refine lv_iadd hx hb dL_law_57 ?_
  refine kr_top (y := nI (k + 1)) (nI_1 k) ?_
  refine lv_irem hx hb dL_law_58 (nI_ne0 (by omega) (by omega)) ?_
  refine kr_top (y := nI (X % (k + 1))) (pk_rem (a := X) (d := (k + 1)) (by omega) (by omega) (by omega)) ?_
  refine lv_iconst (v := 1) hx hb dL_law_59 (by decide) ?_
  refine lv_isub hx hb dL_law_60 ?_
  refine kr_top (y := mI (X % (k + 1))) (kmI) ?_
  refine lv_bipush (v := 6) hx hb dL_law_61 (by decide) ?_
  by_cases hk7 : k < 7
  · refine lv_icmp_ge (tgt := 82) hx hb dL_law_63 (by decide) (fun hc => absurd hc (Int32.not_le.mpr (kmI_lt (by omega)))) (fun _ => ?_)
    refine lv_iload_n hx hb dL_law_66 rfl (lv_at hl 3 rfl) ?_
    refine lv_bipush (v := 7) hx hb dL_law_67 (by decide) ?_
    refine lv_icmp_ge (tgt := 82) hx hb dL_law_69 (by decide) (fun hc => absurd hc (nI_ge (a := k) (b := 7) (by omega) (by omega))) (fun _ => ?_)
    refine lv_iload_n hx hb dL_law_72 rfl (lv_at hl 0 rfl) ?_
    refine lv_iload_n hx hb dL_law_73 rfl (lv_at hl 3 rfl) ?_
    refine lv_iconst (v := 1) hx hb dL_law_74 (by decide) ?_
    refine lv_iadd hx hb dL_law_75 ?_
    refine kr_top (y := nI (k + 1)) (nI_1 k) ?_
    refine lv_irem hx hb dL_law_76 (nI_ne0 (by omega) (by omega)) ?_
    refine kr_top (y := nI (X % (k + 1))) (pk_rem (a := X) (d := (k + 1)) (by omega) (by omega) (by omega)) ?_
    refine lv_iconst (v := 1) hx hb dL_law_77 (by decide) ?_
    refine lv_isub hx hb dL_law_78 ?_
    refine kr_top (y := mI (X % (k + 1))) (kmI) ?_
    refine lv_goto (tgt := 83) hx hb dL_law_79 (by decide) ?_
    exact K83 (X % (k + 1)) ls (by omega) hl
  · refine lv_icmp_ge (tgt := 82) hx hb dL_law_63 (by decide) (fun h6 => ?_) (fun h6 => ?_)
    · refine lv_iconst (v := -1) hx hb dL_law_82 (by decide) ?_
      exact K83 0 ls (Nat.zero_le _) hl
    · refine lv_iload_n hx hb dL_law_66 rfl (lv_at hl 3 rfl) ?_
      refine lv_bipush (v := 7) hx hb dL_law_67 (by decide) ?_
      refine lv_icmp_ge (tgt := 82) hx hb dL_law_69 (by decide) (fun _ => ?_) (fun hc => absurd (nI_le (a := 7) (b := k) (by omega) (by omega)) hc)
      refine lv_iconst (v := -1) hx hb dL_law_82 (by decide) ?_
      exact K83 0 ls (Nat.zero_le _) hl
set_option maxHeartbeats 4000000 in
set_option maxRecDepth 100000 in
theorem lw_3 (S : CallFix p m c cL_law 4 s #[Value.ref b] wsL_law RL) (hE : kE ε s) (hlo : ε.2.2.1 = s.heap.size) (hst : l.stackTraces = false) (hk : k < 13) {R C Wn T : Nat} (hC : C = min k 8) (hli : kLi R C Wn T σ) (hw : kW ε (kHi ε) ad σ H) (hS : va_S (kHi ε) s.heap H locs) (hXX : X < 8388608) (hl : lv_has ls 4 [(3, .int (nI X)), (0, .ref b), (1, .ref (ad 0 0)), (2, .int (nI k))])
    (KK : ∀ (σ' : kS) (ad' : Nat → Nat → Nat) (H' : Heap) (locs' : List Loc) (ls' : Array Slot), kLi (R) (min (k + 1) 8) (Wn) (T) σ' → kW ε (kHi ε) ad' σ' H' → va_S (kHi ε) s.heap H' locs' → lv_has ls' 4 [(3, .int (nI X)), (0, .ref b), (1, .ref (ad' 0 0)), (2, .int (nI k))] → W p l e room_1 s m #[Value.ref b] below meth c H' locs' (1000 + 200 * k + 9) (5000 + 2000 * k + 100) Q (F0 m 144 ls' [])) : W p l e room_1 s m #[Value.ref b] below meth c H locs (1000 + 200 * k + 3) (5000 + 2000 * k + 30) Q (F0 m 104 ls []) := by
  have hx := S.1
  have hb := S.2.1
  have hown : s.vm.findClass RL = some m.cls := S.2.2.2.1
  have hts := S.2.2.2.2
  have hK := hE.1
  have hAb : ∀ q, kHi ε q → kHi ε q := fun _ h => h
  have hA2 : ∀ q, H.size ≤ q → kHi ε q := fun q h => by
    have := hS.1
    show ε.2.2.1 ≤ q
    omega
  obtain ⟨hB, hZ, hQ, h1, h2, h3, h0⟩ := id hli
  have m60 := Nat.mod_lt X (show 0 < 60 by decide)
  have m1001 := Nat.mod_lt X (show 0 < 1001 by decide)
  have m4 := Nat.mod_lt X (show 0 < 4 by decide)
  have m6 := Nat.mod_lt X (show 0 < 6 by decide)
  refine lv_aload_n hx hb dL_law_104 rfl (lv_at hl 2 rfl) ?_
  refine lv_iconst (v := 1) hx hb dL_law_105 (by decide) ?_
  refine lv_iconst (v := 1) hx hb dL_law_106 (by decide) ?_
  refine lv_iload_n hx hb dL_law_107 rfl (lv_at hl 0 rfl) ?_
  refine lv_bipush (v := 60) hx hb dL_law_108 (by decide) ?_
  refine lv_irem hx hb dL_law_110 (by decide) ?_
  refine kr_top (y := nI (X % 60)) (pk_rem (a := X) (d := 60) (by omega) (by omega) (by omega)) ?_
  refine lv_iadd hx hb dL_law_111 ?_
  refine kr_top (y := nI (1 + X % 60)) (nI_add 1 _) ?_
  refine lv_iload_n hx hb dL_law_112 rfl (lv_at hl 0 rfl) ?_
  refine lv_sipush (v := 1001) hx hb dL_law_113 (by decide) ?_
  refine lv_irem hx hb dL_law_116 (by decide) ?_
  refine kr_top (y := nI (X % 1001)) (pk_rem (a := X) (d := 1001) (by omega) (by omega) (by omega)) ?_
  refine lv_iload_n hx hb dL_law_117 rfl (lv_at hl 0 rfl) ?_
  refine lv_iconst (v := 4) hx hb dL_law_118 (by decide) ?_
  refine lv_irem hx hb dL_law_119 (by decide) ?_
  refine kr_top (y := nI (X % 4)) (pk_rem (a := X) (d := 4) (by omega) (by omega) (by omega)) ?_
  refine lv_iconst (v := 1) hx hb dL_law_120 (by decide) ?_
  refine lv_iload_n hx hb dL_law_121 rfl (lv_at hl 0 rfl) ?_
  refine lv_bipush (v := 6) hx hb dL_law_122 (by decide) ?_
  refine lv_irem hx hb dL_law_124 (by decide) ?_
  refine kr_top (y := nI (X % 6)) (pk_rem (a := X) (d := 6) (by omega) (by omega) (by omega)) ?_
  refine lv_iadd hx hb dL_law_125 ?_
  refine kr_top (y := nI (1 + X % 6)) (nI_add 1 _) ?_
  by_cases hk8 : k < 8
  · refine kgo_i (kc_SW (As := [.ref (ad 0 0), .int 1, .int (nI (1 + X % 60)), .int (nI (X % 1001)), .int (nI (X % 4)), .int (nI (1 + X % 6))]) (rest := []) S hE hS hAb (ay_addCheck ε l hw hAb (cp_addCheck ε l (t1 := 1 + X % 60) (t2 := X % 1001) (t3 := X % 4) (t4 := 1 + X % 6) hAb hw hB (by omega) (by omega) (by omega) (by omega) (by omega) (by omega) (by omega) hZ hA2)) (vx_cwSW 6 hts gL_law_L_act rfl rfl rfl (by decide +kernel) ⟨Nat.le_of_ble_eq_true rfl, Nat.le_of_ble_eq_true rfl⟩) rfl hl.1 rfl (Nat.le_of_ble_eq_true rfl) dL_law_126 ⟨Nat.le_trans (Nat.le_of_eq (Nat.add_assoc _ _ _)) (kroom1 hk (by have := kgc_le (σ 2 0); omega)), Nat.le_trans (Nat.le_of_eq (Nat.add_assoc _ _ _)) (kroom2 hk (by have := kgs_le (σ 2 0); omega))⟩) hS (fun _ h => h) (fun r9 H1 locs hp hz1 hq hS => ?_)
    obtain ⟨e9, ad1, ea, hw⟩ := hp
    have hl : lv_has ls 4 [(3, .int (nI X)), (0, .ref b), (1, .ref (ad1 0 0)), (2, .int (nI k))] := by rw [ea]; exact hl
    refine W.widen (k := 1000 + 200 * k + 9) (n := 5000 + 2000 * k + 100) (by have := kgc_le (σ 2 0); omega) (by have := kgs_le (σ 2 0); omega) ?_
    refine kr_top (y := nI k) (by rw [e9, h2, hC, show min k 8 = k by omega]) ?_
    refine lv_iload_n hx hb dL_law_129 rfl (lv_at hl 3 rfl) ?_
    refine lv_bipush (v := 8) hx hb dL_law_130 (by decide) ?_
    refine lv_icmp_ge (tgt := 139) hx hb dL_law_132 (by decide) (fun hc => absurd hc (nI_ge (a := k) (b := 8) (by omega) (by omega))) (fun _ => ?_)
    refine lv_iload_n hx hb dL_law_135 rfl (lv_at hl 3 rfl) ?_
    refine lv_goto (tgt := 141) hx hb dL_law_136 (by decide) ?_
    refine lv_icmp_ne (tgt := 244) hx hb dL_law_141 (by decide) (fun hc => absurd (rfl) hc) (fun _ => ?_)
    have hli9 : kLi R (min (k + 1) 8) Wn T (kAddC σ (1 + X % 60) (X % 1001) (X % 4) (1 + X % 6)) := by
      have := kLi_addC (t1 := 1 + X % 60) (t2 := X % 1001) (t3 := X % 4) (t4 := 1 + X % 6) hli (by omega) (by omega) (by omega) (by omega) (by omega) (by omega) (by omega)
      rw [show min (k + 1) 8 = C + 1 by omega]
      exact this
    exact KK _ _ _ _ _ hli9 hw hS hl
  · refine kgo_i (kc_SW (As := [.ref (ad 0 0), .int 1, .int (nI (1 + X % 60)), .int (nI (X % 1001)), .int (nI (X % 4)), .int (nI (1 + X % 6))]) (rest := []) S hE hS hAb (ax_addCheck3 ε l hw (cpx_addCheck5 ε l (x1 := nI (1 + X % 60)) (x2 := nI (X % 1001)) (x3 := nI (X % 4)) (x4 := nI (1 + X % 6)) hw hB hst (nI_nlt (a := 1 + X % 60) (b := 1) (by omega) (by omega)) ((nI_leI (a := 1 + X % 60) (b := 60) (by omega) (by decide)).mpr (by omega)) (nI_nlt (a := X % 1001) (b := 0) (by omega) (by omega)) ((nI_leI (a := X % 1001) (b := 1000) (by omega) (by decide)).mpr (by omega)) (nI_nlt (a := X % 4) (b := 0) (by omega) (by omega)) ((nI_leI (a := X % 4) (b := 3) (by omega) (by decide)).mpr (by omega)) (nI_nlt (a := 1 + X % 6) (b := 1) (by omega) (by omega)) ((nI_leI (a := 1 + X % 6) (b := 6) (by omega) (by decide)).mpr (by omega)) (by omega))) (vx_cwSW 6 hts gL_law_L_act rfl rfl rfl (by decide +kernel) ⟨Nat.le_of_ble_eq_true rfl, Nat.le_of_ble_eq_true rfl⟩) rfl hl.1 rfl (Nat.le_of_ble_eq_true rfl) dL_law_126 ⟨kroom1b (x := 3) hk (by omega), kroom2b (x := 30) hk (by omega)⟩) hS (fun _ h => h.elim) (fun r9 H1 locs e9 hz1 hq hS => ?_)
    have hw := hw.keep (fun k j hk => hq _ (va_at.lt (hw.1 k j hk).1) (fun h => h))
    refine kr_top e9 ?_
    refine W.widen (k := 1000 + 200 * k + 9) (n := 5000 + 2000 * k + 100) (by omega) (by omega) ?_
    refine lv_iload_n hx hb dL_law_129 rfl (lv_at hl 3 rfl) ?_
    refine lv_bipush (v := 8) hx hb dL_law_130 (by decide) ?_
    refine lv_icmp_ge (tgt := 139) hx hb dL_law_132 (by decide) (fun _ => ?_) (fun hc => absurd (nI_le (a := 8) (b := k) (by omega) (by omega)) hc)
    refine lv_bipush (v := -43) hx hb dL_law_139 (by decide) ?_
    refine lv_icmp_ne (tgt := 244) hx hb dL_law_141 (by decide) (fun hc => absurd (rfl) hc) (fun _ => ?_)
    have hli9 : kLi R (min (k + 1) 8) Wn T σ := by
      rw [show min (k + 1) 8 = C by omega]
      exact hli
    exact KK _ _ _ _ _ hli9 hw hS hl
set_option maxHeartbeats 4000000 in
set_option maxRecDepth 100000 in
theorem lw_4 (S : CallFix p m c cL_law 4 s #[Value.ref b] wsL_law RL) (hE : kE ε s) (hlo : ε.2.2.1 = s.heap.size) (hst : l.stackTraces = false) (hk : k < 13) {R C Wn T : Nat} (hW : Wn = min k 12) (hC0 : 0 < C) (hli : kLi R C Wn T σ) (hw : kW ε (kHi ε) ad σ H) (hS : va_S (kHi ε) s.heap H locs) (hXX : X < 8388608) (hl : lv_has ls 4 [(3, .int (nI X)), (0, .ref b), (1, .ref (ad 0 0)), (2, .int (nI k))])
    (KK : ∀ (σ' : kS) (ad' : Nat → Nat → Nat) (H' : Heap) (locs' : List Loc) (ls' : Array Slot), kLi (R) (C) (min (k + 1) 12) (T) σ' → kW ε (kHi ε) ad' σ' H' → va_S (kHi ε) s.heap H' locs' → lv_has ls' 4 [(3, .int (nI X)), (0, .ref b), (1, .ref (ad' 0 0)), (2, .int (nI k))] → W p l e room_1 s m #[Value.ref b] below meth c H' locs' (1000 + 200 * k + 12) (5000 + 2000 * k + 140) Q (F0 m 177 ls' [])) : W p l e room_1 s m #[Value.ref b] below meth c H locs (1000 + 200 * k + 9) (5000 + 2000 * k + 100) Q (F0 m 144 ls []) := by
  have hx := S.1
  have hb := S.2.1
  have hown : s.vm.findClass RL = some m.cls := S.2.2.2.1
  have hts := S.2.2.2.2
  have hK := hE.1
  have hAb : ∀ q, kHi ε q → kHi ε q := fun _ h => h
  have hA2 : ∀ q, H.size ≤ q → kHi ε q := fun q h => by
    have := hS.1
    show ε.2.2.1 ≤ q
    omega
  obtain ⟨hB, hZ, hQ, h1, h2, h3, h0⟩ := id hli
  have m100001 := Nat.mod_lt X (show 0 < 100001 by decide)
  have m10000 := Nat.mod_lt X (show 0 < 10000 by decide)
  refine lv_aload_n hx hb dL_law_144 rfl (lv_at hl 2 rfl) ?_
  refine lv_iconst (v := 5) hx hb dL_law_145 (by decide) ?_
  refine lv_iconst (v := 0) hx hb dL_law_146 (by decide) ?_
  refine lv_iload_n hx hb dL_law_147 rfl (lv_at hl 0 rfl) ?_
  refine lv_ldc (own := RL) (v := 100001) hx hb hown (hts (.constant RL 103 (100001)) (by decide +kernel)) dL_law_148 ?_
  refine lv_irem hx hb dL_law_150 (by decide) ?_
  refine kr_top (y := nI (X % 100001)) (pk_rem (a := X) (d := 100001) (by omega) (by omega) (by omega)) ?_
  refine lv_iconst (v := 1) hx hb dL_law_151 (by decide) ?_
  refine lv_iload_n hx hb dL_law_152 rfl (lv_at hl 0 rfl) ?_
  refine lv_sipush (v := 10000) hx hb dL_law_153 (by decide) ?_
  refine lv_irem hx hb dL_law_156 (by decide) ?_
  refine kr_top (y := nI (X % 10000)) (pk_rem (a := X) (d := 10000) (by omega) (by omega) (by omega)) ?_
  refine lv_iadd hx hb dL_law_157 ?_
  refine kr_top (y := nI (1 + X % 10000)) (nI_add 1 _) ?_
  refine lv_iconst (v := 0) hx hb dL_law_158 (by decide) ?_
  by_cases hk12 : k < 12
  · refine kgo_i (kc_SW (As := [.ref (ad 0 0), .int 5, .int (nI 0), .int (nI (X % 100001)), .int (nI (1 + X % 10000)), .int 0]) (rest := []) S hE hS hAb (ay_addWindow ε l hw hAb (cp_addWindow ε l (i := 0) (t1 := X % 100001) (t2 := 1 + X % 10000) hAb hw hB (by omega) (by omega) (by omega) (by omega) (by omega) hA2)) (vx_cwSW 6 hts gL_law_L_act rfl rfl rfl (by decide +kernel) ⟨Nat.le_of_ble_eq_true rfl, Nat.le_of_ble_eq_true rfl⟩) rfl hl.1 rfl (Nat.le_of_ble_eq_true rfl) dL_law_159 ⟨Nat.le_trans (Nat.le_of_eq (Nat.add_assoc _ _ _)) (kroom1 hk (by have := kgc_le (σ 3 0); omega)), Nat.le_trans (Nat.le_of_eq (Nat.add_assoc _ _ _)) (kroom2 hk (by have := kgs_le (σ 3 0); omega))⟩) hS (fun _ h => h) (fun r9 H1 locs hp hz1 hq hS => ?_)
    obtain ⟨e9, ad1, ea, hw⟩ := hp
    have hl : lv_has ls 4 [(3, .int (nI X)), (0, .ref b), (1, .ref (ad1 0 0)), (2, .int (nI k))] := by rw [ea]; exact hl
    refine W.widen (k := 1000 + 200 * k + 12) (n := 5000 + 2000 * k + 140) (by have := kgc_le (σ 3 0); omega) (by have := kgs_le (σ 3 0); omega) ?_
    refine kr_top (y := nI k) (by rw [e9, h3, hW, show min k 12 = k by omega]) ?_
    refine lv_iload_n hx hb dL_law_162 rfl (lv_at hl 3 rfl) ?_
    refine lv_bipush (v := 12) hx hb dL_law_163 (by decide) ?_
    refine lv_icmp_ge (tgt := 172) hx hb dL_law_165 (by decide) (fun hc => absurd hc (nI_ge (a := k) (b := 12) (by omega) (by omega))) (fun _ => ?_)
    refine lv_iload_n hx hb dL_law_168 rfl (lv_at hl 3 rfl) ?_
    refine lv_goto (tgt := 174) hx hb dL_law_169 (by decide) ?_
    refine lv_icmp_ne (tgt := 244) hx hb dL_law_174 (by decide) (fun hc => absurd (rfl) hc) (fun _ => ?_)
    have hli9 : kLi R C (min (k + 1) 12) T (kAddW σ 0 (X % 100001) (1 + X % 10000)) := by
      have := kLi_addW (i := 0) (t1 := X % 100001) (t2 := 1 + X % 10000) hli hC0 (by omega) (by omega) (by omega)
      rw [show min (k + 1) 12 = Wn + 1 by omega]
      exact this
    exact KK _ _ _ _ _ hli9 hw hS hl
  · refine kgo_i (kc_SW (As := [.ref (ad 0 0), .int 5, .int (nI 0), .int (nI (X % 100001)), .int (nI (1 + X % 10000)), .int 0]) (rest := []) S hE hS hAb (ax_addWindow3 ε l hw (cpx_addWindow4 ε l (i := 0) (x2 := nI (X % 100001)) (x3 := nI (1 + X % 10000)) hw hB hst (by omega) (nI_nlt (a := X % 100001) (b := 0) (by omega) (by omega)) ((nI_leI (a := X % 100001) (b := 100000) (by omega) (by decide)).mpr (by omega)) (nI_nlt (a := 1 + X % 10000) (b := 1) (by omega) (by omega)) ((nI_leI (a := 1 + X % 10000) (b := 10000) (by omega) (by decide)).mpr (by omega)) (by omega))) (vx_cwSW 6 hts gL_law_L_act rfl rfl rfl (by decide +kernel) ⟨Nat.le_of_ble_eq_true rfl, Nat.le_of_ble_eq_true rfl⟩) rfl hl.1 rfl (Nat.le_of_ble_eq_true rfl) dL_law_159 ⟨kroom1b (x := 9) hk (by omega), kroom2b (x := 100) hk (by omega)⟩) hS (fun _ h => h.elim) (fun r9 H1 locs e9 hz1 hq hS => ?_)
    have hw := hw.keep (fun k j hk => hq _ (va_at.lt (hw.1 k j hk).1) (fun h => h))
    refine kr_top e9 ?_
    refine W.widen (k := 1000 + 200 * k + 12) (n := 5000 + 2000 * k + 140) (by omega) (by omega) ?_
    refine lv_iload_n hx hb dL_law_162 rfl (lv_at hl 3 rfl) ?_
    refine lv_bipush (v := 12) hx hb dL_law_163 (by decide) ?_
    refine lv_icmp_ge (tgt := 172) hx hb dL_law_165 (by decide) (fun _ => ?_) (fun hc => absurd (nI_le (a := 12) (b := k) (by omega) (by omega)) hc)
    refine lv_bipush (v := -43) hx hb dL_law_172 (by decide) ?_
    refine lv_icmp_ne (tgt := 244) hx hb dL_law_174 (by decide) (fun hc => absurd (rfl) hc) (fun _ => ?_)
    have hli9 : kLi R C (min (k + 1) 12) T σ := by
      rw [show min (k + 1) 12 = Wn by omega]
      exact hli
    exact KK _ _ _ _ _ hli9 hw hS hl
set_option maxHeartbeats 4000000 in
set_option maxRecDepth 100000 in
theorem lw_5 (S : CallFix p m c cL_law 4 s #[Value.ref b] wsL_law RL) (hE : kE ε s) (hlo : ε.2.2.1 = s.heap.size) (hst : l.stackTraces = false) (hk : k < 13) {T : Nat} (hli : kLi (min (k + 1) 6) (min (k + 1) 8) (min (k + 1) 12) T σ) (hw : kW ε (kHi ε) ad σ H) (hS : va_S (kHi ε) s.heap H locs) (hl : lv_has ls 4 [(3, .int (nI X)), (0, .ref b), (1, .ref (ad 0 0)), (2, .int (nI k))])
    (KK : ∀ (H' : Heap) (locs' : List Loc) (ls' : Array Slot), kW ε (kHi ε) ad σ H' → va_S (kHi ε) s.heap H' locs' → lv_has ls' 4 [(3, .int (nI X)), (0, .ref b), (1, .ref (ad 0 0)), (2, .int (nI k))] → W p l e room_1 s m #[Value.ref b] below meth c H' locs' (1000 + 200 * k + 140) (5000 + 2000 * k + 908) Q (F0 m 226 ls' [])) : W p l e room_1 s m #[Value.ref b] below meth c H locs (1000 + 200 * k + 12) (5000 + 2000 * k + 140) Q (F0 m 177 ls []) := by
  have hx := S.1
  have hb := S.2.1
  have hown : s.vm.findClass RL = some m.cls := S.2.2.2.1
  have hts := S.2.2.2.2
  have hK := hE.1
  have hAb : ∀ q, kHi ε q → kHi ε q := fun _ h => h
  have hA2 : ∀ q, H.size ≤ q → kHi ε q := fun q h => by
    have := hS.1
    show ε.2.2.1 ≤ q
    omega
  obtain ⟨hB, hZ, hQ, h1, h2, h3, h0⟩ := id hli
  rcases (show k < 6 ∨ (6 ≤ k ∧ k < 8) ∨ (8 ≤ k ∧ k < 12) ∨ 12 ≤ k by omega) with hc | ⟨hc, hd⟩ | ⟨hc, hd⟩ | hc
  · refine lv_aload_n hx hb dL_law_177 rfl (lv_at hl 2 rfl) ?_
    refine lv_iload_n hx hb dL_law_178 rfl (lv_at hl 3 rfl) ?_
    refine lv_bipush (v := 6) hx hb dL_law_179 (by decide) ?_
    refine lv_icmp_ge (tgt := 190) hx hb dL_law_181 (by decide) (fun hc => absurd hc (nI_ge (a := k) (b := 6) (by omega) (by omega))) (fun _ => ?_)
    refine lv_iload_n hx hb dL_law_184 rfl (lv_at hl 3 rfl) ?_
    refine lv_iconst (v := 1) hx hb dL_law_185 (by decide) ?_
    refine lv_iadd hx hb dL_law_186 ?_
    refine kr_top (y := nI (k + 1)) (nI_1 k) ?_
    refine lv_goto (tgt := 192) hx hb dL_law_187 (by decide) ?_
    refine lv_iload_n hx hb dL_law_192 rfl (lv_at hl 3 rfl) ?_
    refine lv_bipush (v := 8) hx hb dL_law_193 (by decide) ?_
    refine lv_icmp_ge (tgt := 204) hx hb dL_law_195 (by decide) (fun hc => absurd hc (nI_ge (a := k) (b := 8) (by omega) (by omega))) (fun _ => ?_)
    refine lv_iload_n hx hb dL_law_198 rfl (lv_at hl 3 rfl) ?_
    refine lv_iconst (v := 1) hx hb dL_law_199 (by decide) ?_
    refine lv_iadd hx hb dL_law_200 ?_
    refine kr_top (y := nI (k + 1)) (nI_1 k) ?_
    refine lv_goto (tgt := 206) hx hb dL_law_201 (by decide) ?_
    refine lv_iload_n hx hb dL_law_206 rfl (lv_at hl 3 rfl) ?_
    refine lv_bipush (v := 12) hx hb dL_law_207 (by decide) ?_
    refine lv_icmp_ge (tgt := 218) hx hb dL_law_209 (by decide) (fun hc => absurd hc (nI_ge (a := k) (b := 12) (by omega) (by omega))) (fun _ => ?_)
    refine lv_iload_n hx hb dL_law_212 rfl (lv_at hl 3 rfl) ?_
    refine lv_iconst (v := 1) hx hb dL_law_213 (by decide) ?_
    refine lv_iadd hx hb dL_law_214 ?_
    refine kr_top (y := nI (k + 1)) (nI_1 k) ?_
    refine lv_goto (tgt := 220) hx hb dL_law_215 (by decide) ?_
    refine kgo_i (kc_S (As := [.ref (ad 0 0), .int (nI (k + 1)), .int (nI (k + 1)), .int (nI (k + 1))]) (rest := []) S hE hS hAb (cl_refuses2 ε l hst hw hB (by omega) (by rw [h1, show min (k + 1) 6 = k + 1 by omega]) (by rw [h2, show min (k + 1) 8 = k + 1 by omega]) (by rw [h3, show min (k + 1) 12 = k + 1 by omega])) (va_cwS 4 hts gL_law_L_refuses rfl rfl rfl (by decide +kernel) ⟨Nat.le_of_ble_eq_true rfl, Nat.le_of_ble_eq_true rfl⟩) rfl hl.1 rfl (Nat.le_of_ble_eq_true rfl) dL_law_220 ⟨Nat.le_trans (Nat.le_of_eq (Nat.add_assoc _ _ _)) (kroom1 hk (by omega)), Nat.le_trans (Nat.le_of_eq (Nat.add_assoc _ _ _)) (kroom2 hk (by omega))⟩) hS (fun _ h => h.elim) (fun r9 H1 locs e9 hz1 hq hS => ?_)
    have hw := hw.keep (fun k j hk => hq _ (va_at.lt (hw.1 k j hk).1) (fun h => h))
    refine kr_top e9 ?_
    refine lv_if_eq (tgt := 244) hx hb dL_law_223 (by decide) (fun hc => absurd hc (by decide)) (fun _ => ?_)
    refine W.widen (k := 1000 + 200 * k + 140) (n := 5000 + 2000 * k + 908) (by omega) (by omega) ?_
    exact KK _ _ _ hw hS hl
  · refine lv_aload_n hx hb dL_law_177 rfl (lv_at hl 2 rfl) ?_
    refine lv_iload_n hx hb dL_law_178 rfl (lv_at hl 3 rfl) ?_
    refine lv_bipush (v := 6) hx hb dL_law_179 (by decide) ?_
    refine lv_icmp_ge (tgt := 190) hx hb dL_law_181 (by decide) (fun _ => ?_) (fun hc => absurd (nI_le (a := 6) (b := k) (by omega) (by omega)) hc)
    refine lv_bipush (v := 6) hx hb dL_law_190 (by decide) ?_
    refine lv_iload_n hx hb dL_law_192 rfl (lv_at hl 3 rfl) ?_
    refine lv_bipush (v := 8) hx hb dL_law_193 (by decide) ?_
    refine lv_icmp_ge (tgt := 204) hx hb dL_law_195 (by decide) (fun hc => absurd hc (nI_ge (a := k) (b := 8) (by omega) (by omega))) (fun _ => ?_)
    refine lv_iload_n hx hb dL_law_198 rfl (lv_at hl 3 rfl) ?_
    refine lv_iconst (v := 1) hx hb dL_law_199 (by decide) ?_
    refine lv_iadd hx hb dL_law_200 ?_
    refine kr_top (y := nI (k + 1)) (nI_1 k) ?_
    refine lv_goto (tgt := 206) hx hb dL_law_201 (by decide) ?_
    refine lv_iload_n hx hb dL_law_206 rfl (lv_at hl 3 rfl) ?_
    refine lv_bipush (v := 12) hx hb dL_law_207 (by decide) ?_
    refine lv_icmp_ge (tgt := 218) hx hb dL_law_209 (by decide) (fun hc => absurd hc (nI_ge (a := k) (b := 12) (by omega) (by omega))) (fun _ => ?_)
    refine lv_iload_n hx hb dL_law_212 rfl (lv_at hl 3 rfl) ?_
    refine lv_iconst (v := 1) hx hb dL_law_213 (by decide) ?_
    refine lv_iadd hx hb dL_law_214 ?_
    refine kr_top (y := nI (k + 1)) (nI_1 k) ?_
    refine lv_goto (tgt := 220) hx hb dL_law_215 (by decide) ?_
    refine kgo_i (kc_S (As := [.ref (ad 0 0), .int 6, .int (nI (k + 1)), .int (nI (k + 1))]) (rest := []) S hE hS hAb (cl_refuses2 ε l hst hw hB (by omega) (by rw [h1, show min (k + 1) 6 = 6 by omega]; rfl) (by rw [h2, show min (k + 1) 8 = k + 1 by omega]) (by rw [h3, show min (k + 1) 12 = k + 1 by omega])) (va_cwS 4 hts gL_law_L_refuses rfl rfl rfl (by decide +kernel) ⟨Nat.le_of_ble_eq_true rfl, Nat.le_of_ble_eq_true rfl⟩) rfl hl.1 rfl (Nat.le_of_ble_eq_true rfl) dL_law_220 ⟨Nat.le_trans (Nat.le_of_eq (Nat.add_assoc _ _ _)) (kroom1 hk (by omega)), Nat.le_trans (Nat.le_of_eq (Nat.add_assoc _ _ _)) (kroom2 hk (by omega))⟩) hS (fun _ h => h.elim) (fun r9 H1 locs e9 hz1 hq hS => ?_)
    have hw := hw.keep (fun k j hk => hq _ (va_at.lt (hw.1 k j hk).1) (fun h => h))
    refine kr_top e9 ?_
    refine lv_if_eq (tgt := 244) hx hb dL_law_223 (by decide) (fun hc => absurd hc (by decide)) (fun _ => ?_)
    refine W.widen (k := 1000 + 200 * k + 140) (n := 5000 + 2000 * k + 908) (by omega) (by omega) ?_
    exact KK _ _ _ hw hS hl
  · refine lv_aload_n hx hb dL_law_177 rfl (lv_at hl 2 rfl) ?_
    refine lv_iload_n hx hb dL_law_178 rfl (lv_at hl 3 rfl) ?_
    refine lv_bipush (v := 6) hx hb dL_law_179 (by decide) ?_
    refine lv_icmp_ge (tgt := 190) hx hb dL_law_181 (by decide) (fun _ => ?_) (fun hc => absurd (nI_le (a := 6) (b := k) (by omega) (by omega)) hc)
    refine lv_bipush (v := 6) hx hb dL_law_190 (by decide) ?_
    refine lv_iload_n hx hb dL_law_192 rfl (lv_at hl 3 rfl) ?_
    refine lv_bipush (v := 8) hx hb dL_law_193 (by decide) ?_
    refine lv_icmp_ge (tgt := 204) hx hb dL_law_195 (by decide) (fun _ => ?_) (fun hc => absurd (nI_le (a := 8) (b := k) (by omega) (by omega)) hc)
    refine lv_bipush (v := 8) hx hb dL_law_204 (by decide) ?_
    refine lv_iload_n hx hb dL_law_206 rfl (lv_at hl 3 rfl) ?_
    refine lv_bipush (v := 12) hx hb dL_law_207 (by decide) ?_
    refine lv_icmp_ge (tgt := 218) hx hb dL_law_209 (by decide) (fun hc => absurd hc (nI_ge (a := k) (b := 12) (by omega) (by omega))) (fun _ => ?_)
    refine lv_iload_n hx hb dL_law_212 rfl (lv_at hl 3 rfl) ?_
    refine lv_iconst (v := 1) hx hb dL_law_213 (by decide) ?_
    refine lv_iadd hx hb dL_law_214 ?_
    refine kr_top (y := nI (k + 1)) (nI_1 k) ?_
    refine lv_goto (tgt := 220) hx hb dL_law_215 (by decide) ?_
    refine kgo_i (kc_S (As := [.ref (ad 0 0), .int 6, .int 8, .int (nI (k + 1))]) (rest := []) S hE hS hAb (cl_refuses2 ε l hst hw hB (by omega) (by rw [h1, show min (k + 1) 6 = 6 by omega]; rfl) (by rw [h2, show min (k + 1) 8 = 8 by omega]; rfl) (by rw [h3, show min (k + 1) 12 = k + 1 by omega])) (va_cwS 4 hts gL_law_L_refuses rfl rfl rfl (by decide +kernel) ⟨Nat.le_of_ble_eq_true rfl, Nat.le_of_ble_eq_true rfl⟩) rfl hl.1 rfl (Nat.le_of_ble_eq_true rfl) dL_law_220 ⟨Nat.le_trans (Nat.le_of_eq (Nat.add_assoc _ _ _)) (kroom1 hk (by omega)), Nat.le_trans (Nat.le_of_eq (Nat.add_assoc _ _ _)) (kroom2 hk (by omega))⟩) hS (fun _ h => h.elim) (fun r9 H1 locs e9 hz1 hq hS => ?_)
    have hw := hw.keep (fun k j hk => hq _ (va_at.lt (hw.1 k j hk).1) (fun h => h))
    refine kr_top e9 ?_
    refine lv_if_eq (tgt := 244) hx hb dL_law_223 (by decide) (fun hc => absurd hc (by decide)) (fun _ => ?_)
    refine W.widen (k := 1000 + 200 * k + 140) (n := 5000 + 2000 * k + 908) (by omega) (by omega) ?_
    exact KK _ _ _ hw hS hl
  · refine lv_aload_n hx hb dL_law_177 rfl (lv_at hl 2 rfl) ?_
    refine lv_iload_n hx hb dL_law_178 rfl (lv_at hl 3 rfl) ?_
    refine lv_bipush (v := 6) hx hb dL_law_179 (by decide) ?_
    refine lv_icmp_ge (tgt := 190) hx hb dL_law_181 (by decide) (fun _ => ?_) (fun hc => absurd (nI_le (a := 6) (b := k) (by omega) (by omega)) hc)
    refine lv_bipush (v := 6) hx hb dL_law_190 (by decide) ?_
    refine lv_iload_n hx hb dL_law_192 rfl (lv_at hl 3 rfl) ?_
    refine lv_bipush (v := 8) hx hb dL_law_193 (by decide) ?_
    refine lv_icmp_ge (tgt := 204) hx hb dL_law_195 (by decide) (fun _ => ?_) (fun hc => absurd (nI_le (a := 8) (b := k) (by omega) (by omega)) hc)
    refine lv_bipush (v := 8) hx hb dL_law_204 (by decide) ?_
    refine lv_iload_n hx hb dL_law_206 rfl (lv_at hl 3 rfl) ?_
    refine lv_bipush (v := 12) hx hb dL_law_207 (by decide) ?_
    refine lv_icmp_ge (tgt := 218) hx hb dL_law_209 (by decide) (fun _ => ?_) (fun hc => absurd (nI_le (a := 12) (b := k) (by omega) (by omega)) hc)
    refine lv_bipush (v := 12) hx hb dL_law_218 (by decide) ?_
    refine kgo_i (kc_S (As := [.ref (ad 0 0), .int 6, .int 8, .int 12]) (rest := []) S hE hS hAb (cl_refuses2 ε l hst hw hB (by omega) (by rw [h1, show min (k + 1) 6 = 6 by omega]; rfl) (by rw [h2, show min (k + 1) 8 = 8 by omega]; rfl) (by rw [h3, show min (k + 1) 12 = 12 by omega]; rfl)) (va_cwS 4 hts gL_law_L_refuses rfl rfl rfl (by decide +kernel) ⟨Nat.le_of_ble_eq_true rfl, Nat.le_of_ble_eq_true rfl⟩) rfl hl.1 rfl (Nat.le_of_ble_eq_true rfl) dL_law_220 ⟨Nat.le_trans (Nat.le_of_eq (Nat.add_assoc _ _ _)) (kroom1 hk (by omega)), Nat.le_trans (Nat.le_of_eq (Nat.add_assoc _ _ _)) (kroom2 hk (by omega))⟩) hS (fun _ h => h.elim) (fun r9 H1 locs e9 hz1 hq hS => ?_)
    have hw := hw.keep (fun k j hk => hq _ (va_at.lt (hw.1 k j hk).1) (fun h => h))
    refine kr_top e9 ?_
    refine lv_if_eq (tgt := 244) hx hb dL_law_223 (by decide) (fun hc => absurd hc (by decide)) (fun _ => ?_)
    refine W.widen (k := 1000 + 200 * k + 140) (n := 5000 + 2000 * k + 908) (by omega) (by omega) ?_
    exact KK _ _ _ hw hS hl
set_option maxHeartbeats 4000000 in
set_option maxRecDepth 100000 in
theorem lw_6 (S : CallFix p m c cL_law 4 s #[Value.ref b] wsL_law RL) (hE : kE ε s) (hlo : ε.2.2.1 = s.heap.size) (hst : l.stackTraces = false) (hk : k < 13) {R C Wn T : Nat} (hT : T ≤ 9 * k) (hli : kLi R C Wn T σ) (hw : kW ε (kHi ε) ad σ H) (hS : va_S (kHi ε) s.heap H locs) (hXX : X < 8388608) (hl : lv_has ls 4 [(3, .int (nI X)), (0, .ref b), (1, .ref (ad 0 0)), (2, .int (nI k))])
    (KK : ∀ (σ' : kS) (ad' : Nat → Nat → Nat) (H' : Heap) (locs' : List Loc) (ls' : Array Slot), kLi (R) (C) (Wn) (9 * (k + 1)) σ' → kW ε (kHi ε) ad' σ' H' → va_S (kHi ε) s.heap H' locs' → lv_has ls' 4 [(0, .ref b), (1, .ref (ad' 0 0)), (2, .int (nI (k + 1)))] → W p l e room_1 s m #[Value.ref b] below meth c H' locs' (1000 + 200 * k + 140) (5000 + 2000 * k + 908) Q (F0 m 24 ls' [])) : W p l e room_1 s m #[Value.ref b] below meth c H locs (1000 + 200 * k + 140) (5000 + 2000 * k + 908) Q (F0 m 226 ls []) := by
  have hx := S.1
  have hb := S.2.1
  have hown : s.vm.findClass RL = some m.cls := S.2.2.2.1
  have hts := S.2.2.2.2
  have hK := hE.1
  have hAb : ∀ q, kHi ε q → kHi ε q := fun _ h => h
  have hA2 : ∀ q, H.size ≤ q → kHi ε q := fun q h => by
    have := hS.1
    show ε.2.2.1 ≤ q
    omega
  obtain ⟨hB, hZ, hQ, h1, h2, h3, h0⟩ := id hli
  have m9 := Nat.mod_lt X (show 0 < 9 by decide)
  refine lv_aload_n hx hb dL_law_226 rfl (lv_at hl 2 rfl) ?_
  refine lv_bipush (v := 7) hx hb dL_law_227 (by decide) ?_
  refine lv_iconst (v := 1) hx hb dL_law_229 (by decide) ?_
  refine lv_iload_n hx hb dL_law_230 rfl (lv_at hl 0 rfl) ?_
  refine lv_bipush (v := 9) hx hb dL_law_231 (by decide) ?_
  refine lv_irem hx hb dL_law_233 (by decide) ?_
  refine kr_top (y := nI (X % 9)) (pk_rem (a := X) (d := 9) (by omega) (by omega) (by omega)) ?_
  refine lv_iadd hx hb dL_law_234 ?_
  refine kr_top (y := nI (1 + X % 9)) (nI_add 1 _) ?_
  refine lv_iconst (v := 0) hx hb dL_law_235 (by decide) ?_
  refine lv_iconst (v := 0) hx hb dL_law_236 (by decide) ?_
  refine lv_iconst (v := 0) hx hb dL_law_237 (by decide) ?_
  obtain ⟨hli9, e4, e0⟩ := kLi_pass (t := 1 + X % 9) hli (by omega)
  have ez : kTc (kPass (1 + X % 9) σ 4 0) - kTc (σ 4 0) = 0 := by rw [e4, e0]; exact Nat.sub_self _
  have ey : kTs (kPass (1 + X % 9) σ 4 0) - kTs (σ 4 0) = 0 := by rw [e4, e0]; exact Nat.sub_self _
  refine kgo_i (kc_SW (As := [.ref (ad 0 0), .int 7, .int (nI (1 + X % 9)), .int 0, .int 0, .int 0]) (rest := []) S hE hS hAb (ay_pass ε l hw hAb (cc_pass0 ε l (x0 := ad 0 0) (t := 1 + X % 9) hAb hw hB rfl (by omega) (by omega) (by omega) hA2 (by rw [e4]; exact Nat.zero_le _))) (vx_cwSW 6 hts gL_law_L_act rfl rfl rfl (by decide +kernel) ⟨Nat.le_of_ble_eq_true rfl, Nat.le_of_ble_eq_true rfl⟩) rfl hl.1 rfl (Nat.le_of_ble_eq_true rfl) dL_law_238 ⟨Nat.le_trans (Nat.le_of_eq (Nat.add_assoc _ _ _)) (kroom1 hk (by omega)), Nat.le_trans (Nat.le_of_eq (Nat.add_assoc _ _ _)) (kroom2 hk (by omega))⟩) hS (fun _ h => h) (fun r9 H1 locs hp hz1 hq hS => ?_)
  obtain ⟨e9, ad1, ea, hw⟩ := hp
  have hl : lv_has ls 4 [(3, .int (nI X)), (0, .ref b), (1, .ref (ad1 0 0)), (2, .int (nI k))] := by rw [ea]; exact hl
  refine W.widen (k := 1000 + 200 * k + 140) (n := 5000 + 2000 * k + 908) (by omega) (by omega) ?_
  refine kr_top (y := 0) (by rw [e9, e4, e0]; rfl) ?_
  refine lv_if_eq (tgt := 246) hx hb dL_law_241 (by decide) (fun _ => ?_) (fun hc => absurd (by decide) hc)
  refine lv_iinc (v := nI (k + 1)) (lv' := [(2, .int (nI (k + 1))), (3, .int (nI X)), (0, .ref b), (1, .ref (ad1 0 0))]) hx hb dL_law_246 hl (k := 3) rfl (nI_1 k) (by decide) rfl (fun ls hl => ?_)
  refine lv_goto (tgt := 24) hx hb dL_law_249 (by decide) ?_
  have hli8 : kLi R C Wn (9 * (k + 1)) (kPass (1 + X % 9) σ) := by
    obtain ⟨a1, a2, a3, a4, a5, a6, a7⟩ := hli9
    exact ⟨a1, a2, a3, a4, a5, a6, by omega⟩
  exact KK _ _ _ _ _ hli8 hw hS (lv_sub hl [2, 3, 0] rfl)
set_option maxHeartbeats 4000000 in
set_option maxRecDepth 100000 in
theorem lw_loop (S : CallFix p m c cL_law 4 s #[Value.ref b] wsL_law RL) (hE : kE ε s) (hlo : ε.2.2.1 = s.heap.size) (hst : l.stackTraces = false) (hX9 : va_X b L xs s s.heap) (hbl : b < s.heap.size) (hL : L ≤ 260)
    (Kend : ∀ (H : Heap) (ls : Array Slot), W p l e room_1 s m #[Value.ref b] below meth c H [] 681719 7056466 Q (F0 m 264 ls [.int 1])) : ∀ (f k : Nat), k + f = 13 → ∀ (σ : kS) (ad : Nat → Nat → Nat) (H : Heap) (locs : List Loc) (ls : Array Slot), kLi (min k 6) (min k 8) (min k 12) (9 * k) σ → kW ε (kHi ε) ad σ H → va_S (kHi ε) s.heap H locs → lv_has ls 4 [(0, .ref b), (1, .ref (ad 0 0)), (2, .int (nI k))] → W p l e room_1 s m #[Value.ref b] below meth c H locs (1000 + 200 * k + 0) (5000 + 2000 * k + 0) Q (F0 m 24 ls []) := by
  intro f
  induction f with
  | zero =>
    intro k hkf σ ad H locs ls hli hw hS hl
    have hk13 : k = 13 := hkf
    subst hk13
    have hx := S.1
    have hb := S.2.1
    have hown : s.vm.findClass RL = some m.cls := S.2.2.2.1
    have hts := S.2.2.2.2
    have hK := hE.1
    have hAb : ∀ q, kHi ε q → kHi ε q := fun _ h => h
    refine lv_iload_n hx hb dL_law_24 rfl (lv_at hl 2 rfl) ?_
    refine lv_bipush (v := 13) hx hb dL_law_25 (by decide) ?_
    refine lv_icmp_ge (tgt := 252) hx hb dL_law_27 (by decide) (fun _ => ?_) (fun hc => absurd (Int32.le_refl _) hc)
    refine lv_aload_n hx hb dL_law_252 rfl (lv_at hl 1 rfl) ?_
    refine kgo_pi (v := nI (σ 4 0)) (kc_V (As := []) (rest := []) S hE hS hAb (cp_alarms ε l hw hli.1) (cwV 0 hts gL_law_X4_alarms rfl rfl rfl (by decide +kernel) ⟨Nat.le_of_ble_eq_true rfl, Nat.le_of_ble_eq_true rfl⟩) (hw.lv 0 0 (rfl : (0 : Nat) = 0)) rfl rfl hl.1 rfl (Nat.le_of_ble_eq_true rfl) dL_law_253 ⟨Nat.le_of_ble_eq_true rfl, Nat.le_of_ble_eq_true rfl⟩) hS (fun locs hS => ?_)
    refine kr_top (y := 0) (by rw [hli.2.2.1.2.2.2.1]; rfl) ?_
    refine lv_if_ne (tgt := 263) hx hb dL_law_256 (by decide) (fun hc => absurd (by decide) hc) (fun _ => ?_)
    refine lv_iconst (v := 1) hx hb dL_law_259 (by decide) ?_
    refine lv_goto (tgt := 264) hx hb dL_law_260 (by decide) ?_
    refine va_forget (fun q hq => Nat.le_trans (Nat.le_of_eq hlo.symm) (hS.2.2 q hq)) ?_
    refine W.widen (k := 681719) (n := 7056466) (Nat.le_of_ble_eq_true rfl) (Nat.le_of_ble_eq_true rfl) ?_
    exact Kend _ _
  | succ f ih =>
    intro k hkf σ ad H locs ls hli hw hS hl
    have hk : k < 13 := by omega
    refine lw_1 S hE hlo hst hk hX9 hbl hL hS hl (fun X ls hXX hl => ?_)
    refine lw_2 S hE hlo hst hk rfl hli hw hS hXX hl (fun σ ad H locs ls hli hw hS hl => ?_)
    refine lw_3 S hE hlo hst hk rfl hli hw hS hXX hl (fun σ ad H locs ls hli hw hS hl => ?_)
    refine lw_4 S hE hlo hst hk rfl (by omega) hli hw hS hXX hl (fun σ ad H locs ls hli hw hS hl => ?_)
    refine lw_5 S hE hlo hst hk hli hw hS hl (fun H locs ls hw hS hl => ?_)
    refine lw_6 S hE hlo hst hk (Nat.le_refl _) hli hw hS hXX hl (fun σ ad H locs ls hli hw hS hl => ?_)
    refine W.widen (k := 1000 + 200 * (k + 1) + 0) (n := 5000 + 2000 * (k + 1) + 0) (by omega) (by omega) ?_
    exact ih (k + 1) (by omega) σ ad H locs ls hli hw hS hl
set_option maxHeartbeats 4000000 in
set_option maxRecDepth 100000 in
theorem law_entry (S : CallFix p m c cL_law 4 s #[Value.ref b] wsL_law RL) (hE : kE ε s) (hX9 : va_X b L xs s s.heap) (hbl : b < s.heap.size) (hlo : ε.2.2.1 = s.heap.size) (hL : L ≤ 260) (hst : l.stackTraces = false) (Kend : ∀ (H : Heap) (ls : Array Slot), W p l e room_1 s m #[Value.ref b] below meth c H [] 681719 7056466 Q (F0 m 264 ls [.int 1])) {ls : Array Slot} (hl : lv_has ls 4 [(0, .ref b)]) : W p l e room_1 s m #[Value.ref b] below meth c s.heap [] 0 0 Q (F0 m 0 ls []) := by
  have hx := S.1
  have hb := S.2.1
  have hown : s.vm.findClass RL = some m.cls := S.2.2.2.1
  have hts := S.2.2.2.2
  have hK := hE.1
  have hAb : ∀ q, kHi ε q → kHi ε q := fun _ h => h
  have hS : va_S (kHi ε) s.heap s.heap [] := va_S.rf
  refine kgo_i (kc_S (As := []) (rest := []) S hE hS hAb (cl_alarm ε l hst (Nat.le_of_eq hlo)) (va_cwS 0 hts gL_law_L_alarm rfl rfl rfl (by decide +kernel) ⟨Nat.le_of_ble_eq_true rfl, Nat.le_of_ble_eq_true rfl⟩) rfl hl.1 rfl (Nat.le_of_ble_eq_true rfl) dL_law_0 ⟨Nat.le_of_ble_eq_true rfl, Nat.le_of_ble_eq_true rfl⟩) hS (fun _ h => h.elim) (fun r9 H1 locs e9 hzH1 hq hS => ?_)
  refine kr_top e9 ?_
  refine lv_if_eq (tgt := 12) hx hb dL_law_3 (by decide) (fun hc => absurd hc (by decide)) (fun _ => ?_)
  refine kgo_i (kc_S (As := []) (rest := []) S hE hS hAb (cl_cut ε l hst (by omega)) (va_cwS 0 hts gL_law_L_cut rfl rfl rfl (by decide +kernel) ⟨Nat.le_of_ble_eq_true rfl, Nat.le_of_ble_eq_true rfl⟩) rfl hl.1 rfl (Nat.le_of_ble_eq_true rfl) dL_law_6 ⟨Nat.le_of_ble_eq_true rfl, Nat.le_of_ble_eq_true rfl⟩) hS (fun _ h => h.elim) (fun r9 H2 locs e9 hzH2 hq hS => ?_)
  refine kr_top e9 ?_
  refine lv_if_ne (tgt := 14) hx hb dL_law_9 (by decide) (fun _ => ?_) (fun hc => absurd hc (by decide))
  refine kr_new (T := TX4) (N := 7) (ci := 5) (fs := [.null, .null, .null, .null, .int 0, .int 0, .int 0]) hx hb hts hown hK hS rfl kin_L_law_X4 tyX4 tyX4_ok (by decide +kernel) (by decide +kernel) (by decide +kernel) (dvX4) (Nat.le_of_ble_eq_true rfl) (Nat.le_of_ble_eq_true rfl) dL_law_14 (fun H3 hN ha hS => ?_)
  have z1 := hN.1
  refine lv_dup hx hb dL_law_17 rfl ?_
  refine kgo_v (kc_I (As := []) (rest := [.ref H2.size]) S hE hS hAb (ci_mesh ε l (by omega) (by omega) ha) (cwI 0 hts gL_law_X4_init rfl rfl rfl (hts (.initialized RX4) (by decide +kernel)) (hts (.methodLink RL 104 yX4_init) (by decide +kernel)) (hts (.instanceMethod yX4_init) (by decide +kernel)) rfl (by decide +kernel) ⟨Nat.le_of_ble_eq_true rfl, Nat.le_of_ble_eq_true rfl⟩) rfl hl.1 rfl (Nat.le_of_ble_eq_true rfl) dL_law_18 ⟨Nat.le_of_ble_eq_true rfl, Nat.le_of_ble_eq_true rfl⟩) hS (fun q h => Or.elim (show q = H2.size ∨ H3.size ≤ q from h) (fun h => by show ε.2.2.1 ≤ q; omega) (fun h => by show ε.2.2.1 ≤ q; omega)) (fun H4 locs hp zz2 qq2 hS => ?_)
  obtain ⟨q2, hw⟩ := hp
  have hw : kW ε (kHi ε) (kad0 ε H2.size q2) k00 H4 := hw.wk (fun k i h => Or.elim (show _ = H2.size ∨ H3.size ≤ _ from (hw.1 k i h).2) (fun h => by show ε.2.2.1 ≤ _; omega) (fun h => by show ε.2.2.1 ≤ _; omega))
  refine lv_astore_n (lv' := [(1, .ref H2.size), (0, .ref b)]) hx hb dL_law_21 rfl hl (by decide) rfl (fun ls hl => ?_)
  refine lv_iconst (v := 0) hx hb dL_law_22 (by decide) ?_
  refine kr_top (y := nI 0) (rfl) ?_
  refine lv_istore_n (lv' := [(2, .int (nI 0)), (1, .ref H2.size), (0, .ref b)]) hx hb dL_law_23 rfl hl (by decide) rfl (fun ls hl => ?_)
  refine W.widen (k := 1000 + 200 * 0 + 0) (n := 5000 + 2000 * 0 + 0) (Nat.le_of_ble_eq_true rfl) (Nat.le_of_ble_eq_true rfl) ?_
  exact lw_loop S hE hlo hst hX9 hbl hL Kend 13 0 rfl k00 (kad0 ε H2.size q2) H4 _ _ kLi_start hw hS (lv_sub hl [2, 1, 0] rfl)
end KLAW
