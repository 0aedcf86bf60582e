theorem kin_X5_nextProbe_X5 : ∀ w ∈ wsX50, w ∈ wsX5_nextProbe := by decide +kernel
set_option maxHeartbeats 4000000 in
set_option maxRecDepth 100000 in
theorem cm_nextProbe (ε : kEnv) (l : Launch) {A : Nat → Prop} {bd : Nat → Nat} {τ : kS} {H : Heap} {i r : Nat} (hAb : ∀ q, A q → kHi ε q) (hm : kM ε A bd τ H) (hB : mB τ) (hi : i < τ 32 0) (hr0 : r < τ 31 0) : kMi ε l yX5_nextProbe wsX5_nextProbe ({ frames := 6, cells := 0, slots := 0, locals := 140 }) [.ref (bd 0), .int (nI i), .int (nI r)] H A (0) (0) (fun v9 H' => v9 = nI (mNx τ i r) ∧ kM ε A bd (mT τ 0) H') := by
  refine kof (cc := cX5_nextProbe) (maxL := 5) (ret := (some .int)) (by decide) rfl (Nat.le_of_ble_eq_true rfl) ?_
  intro p e s m below meth c ls S hr hlocks hin hH hE hl
  have S : CallFix p m c cX5_nextProbe 5 s _ wsX5_nextProbe RX5 := S
  have hx := S.1
  have hb := S.2.1
  have hown : s.vm.findClass RX5 = some m.cls := S.2.2.2.1
  have hts := S.2.2.2.2
  have hK := hE.1
  have hS : va_S A s.heap H [] := by rw [hH]; exact va_S.rf
  have hl : lv_has ls 5 [(0, .ref (bd 0)), (1, .int (nI i)), (2, .int (nI r))] := hl
  have hnR := hB.nR
  have hnC := hB.nC
  have hnW := hB.nW
  have hnA := hB.nA
  have hmn := hB.min
  have hpr := hB.pr (6 * i + r)
  have hck := hB.ck i hi
  refine lv_aload_n hx hb dX5_nextProbe_0 rfl (lv_at hl 0 rfl) ?_
  refine lv_iload_n hx hb dX5_nextProbe_1 rfl (lv_at hl 1 rfl) ?_
  refine lv_iload_n hx hb dX5_nextProbe_2 rfl (lv_at hl 2 rfl) ?_
  refine kgo_i (kc_V (As := [.int (nI i), .int (nI r)]) (rest := []) S hE hS hAb (cm_isPair ε l hAb hm hB hi hr0) (cwV 2 hts gX5_nextProbe_X5_isPair rfl rfl rfl (by decide +kernel) ⟨Nat.le_of_ble_eq_true rfl, Nat.le_of_ble_eq_true rfl⟩) (hm.lv 0 (by decide)) rfl rfl hl.1 rfl (Nat.le_of_ble_eq_true rfl) dX5_nextProbe_3 ⟨Nat.zero_le _, Nat.zero_le _⟩) hS (fun _ h => h) (fun v9 H1 locs hp hz hq hS => ?_)
  obtain ⟨rfl, hm⟩ := hp
  have hB : mB (mT τ 0) := hB
  refine lv_if_ne (tgt := 11) hx hb dX5_nextProbe_6 (by decide) (fun _ => ?_) (fun hc => absurd hc (by decide))
  refine lv_bipush (v := 6) hx hb dX5_nextProbe_11 (by decide) ?_
  refine lv_iload_n hx hb dX5_nextProbe_13 rfl (lv_at hl 1 rfl) ?_
  refine lv_imul hx hb dX5_nextProbe_14 ?_
  refine kr_top (y := nI (6 * i)) (nI_mul 6 i) ?_
  refine lv_iload_n hx hb dX5_nextProbe_15 rfl (lv_at hl 2 rfl) ?_
  refine lv_iadd hx hb dX5_nextProbe_16 ?_
  refine kr_top (y := nI (6 * i + r)) (nI_add _ _) ?_
  refine lv_istore_n (lv' := [(3, .int (nI (6 * i + r))), (0, .ref (bd 0)), (1, .int (nI i)), (2, .int (nI r))]) hx hb dX5_nextProbe_17 rfl hl (by decide) rfl (fun ls hl => ?_)
  refine lv_aload_n hx hb dX5_nextProbe_18 rfl (lv_at hl 1 rfl) ?_
  refine kr_get (T := TX5) (N := 28) hx hb hts hown hK (hm.lv 0 (by decide)) rfl kin_X5_nextProbe_X5 18 (by decide) (by decide +kernel) rfl dX5_nextProbe_19 ?_
  refine lv_iload_n hx hb dX5_nextProbe_22 rfl (lv_at hl 0 rfl) ?_
  refine kr_ild hx hb hK (hm.lv 16 (by decide)) (j := 6 * i + r) ((show 6 * i + r < 48 by omega)) (nI_clamp (ks31 ((show 6 * i + r < 48 by omega)))) (nI_pos (ks31 ((show 6 * i + r < 48 by omega)))) (x := nI ((mT τ 0) 16 (6 * i + r))) rfl dX5_nextProbe_23 ?_
  refine kr_top (y := nI (τ 16 (6 * i + r))) (rfl) ?_
  refine lv_if_le (tgt := 36) hx hb dX5_nextProbe_24 (by decide) (fun hc => ?_) (fun hc => ?_)
  · have h0 : τ 16 (6 * i + r) = 0 := Classical.byContradiction (fun h => nI_nle (Nat.pos_of_ne_zero h) (by omega) hc)
    obtain ⟨g1, g2, g3⟩ := mNx_ok (τ := τ) (c := i) (r := r) h0 hck.1.1
    have hup : mNx τ i r ≤ 110000 := by unfold mNx; split; omega; split; omega; split; omega; omega
    have hsc : ∀ t, mSch (mT τ 0) i r t = mSch τ i r t := fun _ => rfl
    refine lv_aload_n hx hb dX5_nextProbe_36 rfl (lv_at hl 1 rfl) ?_
    refine kr_get (T := TX5) (N := 28) hx hb hts hown hK (hm.lv 0 (by decide)) rfl kin_X5_nextProbe_X5 0 (by decide) (by decide +kernel) rfl dX5_nextProbe_37 ?_
    refine lv_iconst (v := 1) hx hb dX5_nextProbe_40 (by decide) ?_
    refine lv_iadd hx hb dX5_nextProbe_41 ?_
    refine kr_top (y := nI (τ 30 0 + 1)) (nI_1 _) ?_
    refine lv_istore (lv' := [(4, .int (nI (τ 30 0 + 1))), (3, .int (nI (6 * i + r))), (0, .ref (bd 0)), (1, .int (nI i)), (2, .int (nI r))]) hx hb dX5_nextProbe_42 hl (by decide) rfl (fun ls hl => ?_)
    suffices K : ∀ (n t : Nat) (locs : List Loc) (ls : Array Slot), t + n = mNx τ i r → τ 30 0 + 1 ≤ t → va_S A s.heap H1 locs → lv_has ls 5 [(4, .int (nI t)), (3, .int (nI (6 * i + r))), (2, .int (nI r)), (1, .int (nI i)), (0, .ref (bd 0))] → W p l e ({ frames := 6, cells := 0, slots := 0, locals := 140 }) s m [.ref (bd 0), .int (nI i), .int (nI r)].toArray below meth c H1 locs 0 0 (MQ below (kQi (fun v9 H' => v9 = nI (mNx τ i r) ∧ kM ε A bd (mT τ 0) H') A) [.ref (bd 0), .int (nI i), .int (nI r)].toArray s (0) (0) A) (F0 m 44 ls []) from K (mNx τ i r - (τ 30 0 + 1)) (τ 30 0 + 1) _ _ (by omega) (Nat.le_refl _) hS (lv_sub hl [0, 1, 4, 3, 2] rfl)
    clear hl hS
    intro n
    induction n with
    | zero =>
      intro t locs ls hn ht hS hl
      have hT : t = mNx τ i r := hn
      refine lv_aload_n hx hb dX5_nextProbe_44 rfl (lv_at hl 4 rfl) ?_
      refine kr_get (T := TX5) (N := 28) hx hb hts hown hK (hm.lv 0 (by decide)) rfl kin_X5_nextProbe_X5 18 (by decide) (by decide +kernel) rfl dX5_nextProbe_45 ?_
      refine lv_iload_n hx hb dX5_nextProbe_48 rfl (lv_at hl 1 rfl) ?_
      refine kr_ild hx hb hK (hm.lv 16 (by decide)) (j := 6 * i + r) ((show 6 * i + r < 48 by omega)) (nI_clamp (ks31 ((show 6 * i + r < 48 by omega)))) (nI_pos (ks31 ((show 6 * i + r < 48 by omega)))) (x := nI ((mT τ 0) 16 (6 * i + r))) rfl dX5_nextProbe_49 ?_
      refine kr_top (y := 0) (by show nI (τ 16 (6 * i + r)) = 0; rw [h0]; rfl) ?_
      refine lv_if_ne (tgt := 70) hx hb dX5_nextProbe_50 (by decide) (fun hc => absurd (by decide) hc) (fun _ => ?_)
      refine lv_aload_n hx hb dX5_nextProbe_53 rfl (lv_at hl 4 rfl) ?_
      refine lv_iload_n hx hb dX5_nextProbe_54 rfl (lv_at hl 3 rfl) ?_
      refine lv_iload_n hx hb dX5_nextProbe_55 rfl (lv_at hl 2 rfl) ?_
      refine lv_iload hx hb dX5_nextProbe_56 (lv_at hl 0 rfl) ?_
      refine kgo_pi (v := bI (mSch (mT τ 0) i r t)) (kc_V (As := [.int (nI i), .int (nI r), .int (nI t)]) (rest := []) S hE hS hAb (cm_isSch ε l hm hB hi hr0 (t := t) (by omega)) (cwV 3 hts gX5_nextProbe_X5_isScheduled rfl rfl rfl (by decide +kernel) ⟨Nat.le_of_ble_eq_true rfl, Nat.le_of_ble_eq_true rfl⟩) (hm.lv 0 (by decide)) rfl rfl hl.1 rfl (Nat.le_of_ble_eq_true rfl) dX5_nextProbe_58 ⟨Nat.zero_le _, Nat.zero_le _⟩) hS (fun locs hS => ?_)
      refine kr_top (y := 1) (by rw [hsc, hT, g2]; rfl) ?_
      refine lv_if_ne (tgt := 70) hx hb dX5_nextProbe_61 (by decide) (fun _ => ?_) (fun hc => absurd hc (by decide))
      refine lv_iload hx hb dX5_nextProbe_70 (lv_at hl 0 rfl) ?_
      refine kend_i S hr hlocks hS ⟨by rw [hT], hm⟩ dX5_nextProbe_72
    | succ n ih =>
      intro t locs ls hn ht hS hl
      refine lv_aload_n hx hb dX5_nextProbe_44 rfl (lv_at hl 4 rfl) ?_
      refine kr_get (T := TX5) (N := 28) hx hb hts hown hK (hm.lv 0 (by decide)) rfl kin_X5_nextProbe_X5 18 (by decide) (by decide +kernel) rfl dX5_nextProbe_45 ?_
      refine lv_iload_n hx hb dX5_nextProbe_48 rfl (lv_at hl 1 rfl) ?_
      refine kr_ild hx hb hK (hm.lv 16 (by decide)) (j := 6 * i + r) ((show 6 * i + r < 48 by omega)) (nI_clamp (ks31 ((show 6 * i + r < 48 by omega)))) (nI_pos (ks31 ((show 6 * i + r < 48 by omega)))) (x := nI ((mT τ 0) 16 (6 * i + r))) rfl dX5_nextProbe_49 ?_
      refine kr_top (y := 0) (by show nI (τ 16 (6 * i + r)) = 0; rw [h0]; rfl) ?_
      refine lv_if_ne (tgt := 70) hx hb dX5_nextProbe_50 (by decide) (fun hc => absurd (by decide) hc) (fun _ => ?_)
      refine lv_aload_n hx hb dX5_nextProbe_53 rfl (lv_at hl 4 rfl) ?_
      refine lv_iload_n hx hb dX5_nextProbe_54 rfl (lv_at hl 3 rfl) ?_
      refine lv_iload_n hx hb dX5_nextProbe_55 rfl (lv_at hl 2 rfl) ?_
      refine lv_iload hx hb dX5_nextProbe_56 (lv_at hl 0 rfl) ?_
      refine kgo_pi (v := bI (mSch (mT τ 0) i r t)) (kc_V (As := [.int (nI i), .int (nI r), .int (nI t)]) (rest := []) S hE hS hAb (cm_isSch ε l hm hB hi hr0 (t := t) (by omega)) (cwV 3 hts gX5_nextProbe_X5_isScheduled rfl rfl rfl (by decide +kernel) ⟨Nat.le_of_ble_eq_true rfl, Nat.le_of_ble_eq_true rfl⟩) (hm.lv 0 (by decide)) rfl rfl hl.1 rfl (Nat.le_of_ble_eq_true rfl) dX5_nextProbe_58 ⟨Nat.zero_le _, Nat.zero_le _⟩) hS (fun locs hS => ?_)
      refine kr_top (y := 0) (by rw [hsc, g3 t ht (by omega)]; rfl) ?_
      refine lv_if_ne (tgt := 70) hx hb dX5_nextProbe_61 (by decide) (fun hc => absurd (by decide) hc) (fun _ => ?_)
      refine lv_iinc (v := nI (t + 1)) (lv' := [(4, .int (nI (t + 1))), (3, .int (nI (6 * i + r))), (2, .int (nI r)), (1, .int (nI i)), (0, .ref (bd 0))]) hx hb dX5_nextProbe_64 hl (k := 0) rfl (nI_1 t) (by decide) rfl (fun ls hl => ?_)
      refine lv_goto (tgt := 44) hx hb dX5_nextProbe_67 (by decide) ?_
      exact ih (t + 1) _ _ (by omega) (by omega) hS (lv_sub hl [0, 1, 2, 3, 4] rfl)
  · have h0 : 0 < τ 16 (6 * i + r) := Nat.pos_of_ne_zero (fun h => hc (by rw [h]; exact Int32.le_refl _))
    refine lv_aload_n hx hb dX5_nextProbe_27 rfl (lv_at hl 1 rfl) ?_
    refine kr_get (T := TX5) (N := 28) hx hb hts hown hK (hm.lv 0 (by decide)) rfl kin_X5_nextProbe_X5 19 (by decide) (by decide +kernel) rfl dX5_nextProbe_28 ?_
    refine lv_iload_n hx hb dX5_nextProbe_31 rfl (lv_at hl 0 rfl) ?_
    refine kr_ild hx hb hK (hm.lv 17 (by decide)) (j := 6 * i + r) ((show 6 * i + r < 48 by omega)) (nI_clamp (ks31 ((show 6 * i + r < 48 by omega)))) (nI_pos (ks31 ((show 6 * i + r < 48 by omega)))) (x := nI ((mT τ 0) 17 (6 * i + r))) rfl dX5_nextProbe_32 ?_
    refine kr_top (y := nI (τ 17 (6 * i + r))) (rfl) ?_
    refine lv_goto (tgt := 42) hx hb dX5_nextProbe_33 (by decide) ?_
    refine lv_istore (lv' := [(4, .int (nI (τ 17 (6 * i + r)))), (3, .int (nI (6 * i + r))), (0, .ref (bd 0)), (1, .int (nI i)), (2, .int (nI r))]) hx hb dX5_nextProbe_42 hl (by decide) rfl (fun ls hl => ?_)
    refine lv_aload_n hx hb dX5_nextProbe_44 rfl (lv_at hl 2 rfl) ?_
    refine kr_get (T := TX5) (N := 28) hx hb hts hown hK (hm.lv 0 (by decide)) rfl kin_X5_nextProbe_X5 18 (by decide) (by decide +kernel) rfl dX5_nextProbe_45 ?_
    refine lv_iload_n hx hb dX5_nextProbe_48 rfl (lv_at hl 1 rfl) ?_
    refine kr_ild hx hb hK (hm.lv 16 (by decide)) (j := 6 * i + r) ((show 6 * i + r < 48 by omega)) (nI_clamp (ks31 ((show 6 * i + r < 48 by omega)))) (nI_pos (ks31 ((show 6 * i + r < 48 by omega)))) (x := nI ((mT τ 0) 16 (6 * i + r))) rfl dX5_nextProbe_49 ?_
    refine kr_top (y := nI (τ 16 (6 * i + r))) (rfl) ?_
    refine lv_if_ne (tgt := 70) hx hb dX5_nextProbe_50 (by decide) (fun _ => ?_) (fun hc => absurd hc (nI_ne0 h0 (by omega)))
    refine lv_iload hx hb dX5_nextProbe_70 (lv_at hl 0 rfl) ?_
    refine kend_i S hr hlocks hS ⟨by unfold mNx; rw [if_pos h0], hm⟩ dX5_nextProbe_72
set_option maxHeartbeats 4000000 in
set_option maxRecDepth 100000 in
theorem cm_nextProbeX1 (ε : kEnv) (l : Launch) {A : Nat → Prop} {bd : Nat → Nat} {τ : kS} {H : Heap} {x y : Int32} (hAb : ∀ q, A q → kHi ε q) (hm : kM ε A bd τ H) (hB : mB τ) (h : x < 0 ∨ nI (τ 32 0) ≤ x) : kMi ε l yX5_nextProbe wsX5_nextProbe ({ frames := 6, cells := 0, slots := 0, locals := 140 }) [.ref (bd 0), .int x, .int y] H A (0) (0) (fun v9 H' => v9 = 0 ∧ kM ε A bd (mT τ 1) H') := by
  refine kof (cc := cX5_nextProbe) (maxL := 5) (ret := (some .int)) (by decide) rfl (Nat.le_of_ble_eq_true rfl) ?_
  intro p e s m below meth c ls S hr hlocks hin hH hE hl
  have S : CallFix p m c cX5_nextProbe 5 s _ wsX5_nextProbe RX5 := S
  have hx := S.1
  have hb := S.2.1
  have hown : s.vm.findClass RX5 = some m.cls := S.2.2.2.1
  have hts := S.2.2.2.2
  have hK := hE.1
  have hS : va_S A s.heap H [] := by rw [hH]; exact va_S.rf
  have hl : lv_has ls 5 [(0, .ref (bd 0)), (1, .int x), (2, .int y)] := hl
  have hnR := hB.nR
  have hnC := hB.nC
  have hnW := hB.nW
  have hnA := hB.nA
  have hmn := hB.min
  refine lv_aload_n hx hb dX5_nextProbe_0 rfl (lv_at hl 0 rfl) ?_
  refine lv_iload_n hx hb dX5_nextProbe_1 rfl (lv_at hl 1 rfl) ?_
  refine lv_iload_n hx hb dX5_nextProbe_2 rfl (lv_at hl 2 rfl) ?_
  refine kgo_i (kc_V (As := [.int x, .int y]) (rest := []) S hE hS hAb (cm_isPairX1 ε l hAb hm hB h) (cwV 2 hts gX5_nextProbe_X5_isPair rfl rfl rfl (by decide +kernel) ⟨Nat.le_of_ble_eq_true rfl, Nat.le_of_ble_eq_true rfl⟩) (hm.lv 0 (by decide)) rfl rfl hl.1 rfl (Nat.le_of_ble_eq_true rfl) dX5_nextProbe_3 ⟨Nat.zero_le _, Nat.zero_le _⟩) hS (fun _ h => h) (fun v9 H1 locs hp hz hq hS => ?_)
  obtain ⟨rfl, hm⟩ := hp
  have hB : mB (mT τ 1) := hB
  refine lv_if_ne (tgt := 11) hx hb dX5_nextProbe_6 (by decide) (fun hc => absurd (by decide) hc) (fun _ => ?_)
  refine lv_iconst (v := 0) hx hb dX5_nextProbe_9 (by decide) ?_
  refine kend_i S hr hlocks hS ⟨rfl, hm⟩ dX5_nextProbe_10
set_option maxHeartbeats 4000000 in
set_option maxRecDepth 100000 in
theorem cm_nextProbeX2 (ε : kEnv) (l : Launch) {A : Nat → Prop} {bd : Nat → Nat} {τ : kS} {H : Heap} {i : Nat} {y : Int32} (hAb : ∀ q, A q → kHi ε q) (hm : kM ε A bd τ H) (hB : mB τ) (hi : i < τ 32 0) (h : y < 0 ∨ nI (τ 31 0) ≤ y) : kMi ε l yX5_nextProbe wsX5_nextProbe ({ frames := 6, cells := 0, slots := 0, locals := 140 }) [.ref (bd 0), .int (nI i), .int y] H A (0) (0) (fun v9 H' => v9 = 0 ∧ kM ε A bd (mT τ 1) H') := by
  refine kof (cc := cX5_nextProbe) (maxL := 5) (ret := (some .int)) (by decide) rfl (Nat.le_of_ble_eq_true rfl) ?_
  intro p e s m below meth c ls S hr hlocks hin hH hE hl
  have S : CallFix p m c cX5_nextProbe 5 s _ wsX5_nextProbe RX5 := S
  have hx := S.1
  have hb := S.2.1
  have hown : s.vm.findClass RX5 = some m.cls := S.2.2.2.1
  have hts := S.2.2.2.2
  have hK := hE.1
  have hS : va_S A s.heap H [] := by rw [hH]; exact va_S.rf
  have hl : lv_has ls 5 [(0, .ref (bd 0)), (1, .int (nI i)), (2, .int y)] := hl
  have hnR := hB.nR
  have hnC := hB.nC
  have hnW := hB.nW
  have hnA := hB.nA
  have hmn := hB.min
  refine lv_aload_n hx hb dX5_nextProbe_0 rfl (lv_at hl 0 rfl) ?_
  refine lv_iload_n hx hb dX5_nextProbe_1 rfl (lv_at hl 1 rfl) ?_
  refine lv_iload_n hx hb dX5_nextProbe_2 rfl (lv_at hl 2 rfl) ?_
  refine kgo_i (kc_V (As := [.int (nI i), .int y]) (rest := []) S hE hS hAb (cm_isPairX2 ε l hAb hm hB hi h) (cwV 2 hts gX5_nextProbe_X5_isPair rfl rfl rfl (by decide +kernel) ⟨Nat.le_of_ble_eq_true rfl, Nat.le_of_ble_eq_true rfl⟩) (hm.lv 0 (by decide)) rfl rfl hl.1 rfl (Nat.le_of_ble_eq_true rfl) dX5_nextProbe_3 ⟨Nat.zero_le _, Nat.zero_le _⟩) hS (fun _ h => h) (fun v9 H1 locs hp hz hq hS => ?_)
  obtain ⟨rfl, hm⟩ := hp
  have hB : mB (mT τ 1) := hB
  refine lv_if_ne (tgt := 11) hx hb dX5_nextProbe_6 (by decide) (fun hc => absurd (by decide) hc) (fun _ => ?_)
  refine lv_iconst (v := 0) hx hb dX5_nextProbe_9 (by decide) ?_
  refine kend_i S hr hlocks hS ⟨rfl, hm⟩ dX5_nextProbe_10
theorem kin_X5_endWindow_X5 : ∀ w ∈ wsX50, w ∈ wsX5_endWindow := by decide +kernel
set_option maxHeartbeats 4000000 in
set_option maxRecDepth 100000 in
theorem cm_endWindow (ε : kEnv) (l : Launch) {A : Nat → Prop} {bd : Nat → Nat} {τ : kS} {H : Heap} {i : Nat} (hAb : ∀ q, A q → kHi ε q) (hm : kM ε A bd τ H) (hB : mB τ) (hi : i < τ 33 0) : kMi ε l yX5_endWindow wsX5_endWindow ({ frames := 6, cells := 0, slots := 0, locals := 140 }) [.ref (bd 0), .int (nI i)] H A (0) (0) (fun v9 H' => v9 = nI (max (min (τ 30 0 + 1) (τ 20 i)) (τ 19 i) - τ 19 i) ∧ kM ε A bd (ku (mT τ 0) 20 i (max (min (τ 30 0 + 1) (τ 20 i)) (τ 19 i))) H') := by
  refine kof (cc := cX5_endWindow) (maxL := 3) (ret := (some .int)) (by decide) rfl (Nat.le_of_ble_eq_true rfl) ?_
  intro p e s m below meth c ls S hr hlocks hin hH hE hl
  have S : CallFix p m c cX5_endWindow 3 s _ wsX5_endWindow RX5 := S
  have hx := S.1
  have hb := S.2.1
  have hown : s.vm.findClass RX5 = some m.cls := S.2.2.2.1
  have hts := S.2.2.2.2
  have hK := hE.1
  have hS : va_S A s.heap H [] := by rw [hH]; exact va_S.rf
  have hl : lv_has ls 3 [(0, .ref (bd 0)), (1, .int (nI i))] := hl
  have hnR := hB.nR
  have hnC := hB.nC
  have hnW := hB.nW
  have hnA := hB.nA
  have hmn := hB.min
  have hwn := hB.wn i hi
  refine lv_aload_n hx hb dX5_endWindow_0 rfl (lv_at hl 0 rfl) ?_
  refine lv_iload_n hx hb dX5_endWindow_1 rfl (lv_at hl 1 rfl) ?_
  refine lv_iconst (v := 0) hx hb dX5_endWindow_2 (by decide) ?_
  refine lv_aload_n hx hb dX5_endWindow_3 rfl (lv_at hl 0 rfl) ?_
  refine kr_get (T := TX5) (N := 28) hx hb hts hown hK (hm.lv 0 (by decide)) rfl kin_X5_endWindow_X5 20 (by decide) (by decide +kernel) rfl dX5_endWindow_4 ?_
  refine lv_iconst (v := 1) hx hb dX5_endWindow_7 (by decide) ?_
  refine lv_isub hx hb dX5_endWindow_8 ?_
  refine kgo_pi (v := 1) (kc_S (As := [.int (nI i), .int 0, .int ((nI (τ 33 0) - 1))]) (rest := [.ref (bd 0)]) S hE hS hAb (cm_isInT ε l (nI_pos (by omega)) (nI_top (by omega) hi)) (va_cwS 3 hts gX5_endWindow_X5_isIn rfl rfl rfl (by decide +kernel) ⟨Nat.le_of_ble_eq_true rfl, Nat.le_of_ble_eq_true rfl⟩) rfl hl.1 rfl (Nat.le_of_ble_eq_true rfl) dX5_endWindow_9 ⟨Nat.zero_le _, Nat.zero_le _⟩) hS (fun locs hS => ?_)
  refine lv_if_eq (tgt := 19) hx hb dX5_endWindow_12 (by decide) (fun hc => absurd hc (by decide)) (fun _ => ?_)
  refine lv_iconst (v := 0) hx hb dX5_endWindow_15 (by decide) ?_
  refine lv_goto (tgt := 20) hx hb dX5_endWindow_16 (by decide) ?_
  refine kr_top (y := nI 0) (rfl) ?_
  refine kr_put (T := TX5) (N := 28) (v := .int (nI 0)) (ty := .int) hx hb hts hown hK hS (hm.lv 0 (by decide)) (hm.1 0 (by decide)).2 rfl kin_X5_endWindow_X5 tyX5 tyX5_ok nmX5 27 (by decide) "ProbewebModel" (hts (.fieldLink RX5 78 "ProbewebModel" "thrown" "I") (by decide +kernel)) (fun _ h => h) rfl (by decide +kernel) rfl rfl (Nat.le_of_ble_eq_true rfl) dX5_endWindow_20 (fun H1 locs hU ho hS => ?_)
  have hm := km_p35 (v := 0) hm hU ho
  clear hU ho
  have hB : mB (mT τ 0) := hB
  refine lv_aload_n hx hb dX5_endWindow_23 rfl (lv_at hl 0 rfl) ?_
  refine kr_get (T := TX5) (N := 28) hx hb hts hown hK (hm.lv 0 (by decide)) rfl kin_X5_endWindow_X5 27 (by decide) (by decide +kernel) rfl dX5_endWindow_24 ?_
  refine kr_top (y := 0) (rfl) ?_
  refine lv_if_le (tgt := 32) hx hb dX5_endWindow_27 (by decide) (fun _ => ?_) (fun hc => absurd (by decide) hc)
  refine lv_aload_n hx hb dX5_endWindow_32 rfl (lv_at hl 0 rfl) ?_
  refine kr_get (T := TX5) (N := 28) hx hb hts hown hK (hm.lv 0 (by decide)) rfl kin_X5_endWindow_X5 23 (by decide) (by decide +kernel) rfl dX5_endWindow_33 ?_
  refine lv_iload_n hx hb dX5_endWindow_36 rfl (lv_at hl 1 rfl) ?_
  refine kr_ild hx hb hK (hm.lv 20 (by decide)) (j := i) ((show i < 12 by omega)) (nI_clamp (ks31 ((show i < 12 by omega)))) (nI_pos (ks31 ((show i < 12 by omega)))) (x := nI ((ku τ 35 0 0) 20 i)) rfl dX5_endWindow_37 ?_
  refine kr_top (y := nI (τ 20 i)) (rfl) ?_
  refine lv_aload_n hx hb dX5_endWindow_38 rfl (lv_at hl 0 rfl) ?_
  refine kr_get (T := TX5) (N := 28) hx hb hts hown hK (hm.lv 0 (by decide)) rfl kin_X5_endWindow_X5 0 (by decide) (by decide +kernel) rfl dX5_endWindow_39 ?_
  refine lv_iconst (v := 1) hx hb dX5_endWindow_42 (by decide) ?_
  refine lv_iadd hx hb dX5_endWindow_43 ?_
  refine kr_top (y := nI (τ 30 0 + 1)) (nI_1 _) ?_
  refine lv_icmp_le (tgt := 56) hx hb dX5_endWindow_44 (by decide) (fun hc => ?_) (fun hc => ?_)
  · refine lv_aload_n hx hb dX5_endWindow_56 rfl (lv_at hl 0 rfl) ?_
    refine kr_get (T := TX5) (N := 28) hx hb hts hown hK (hm.lv 0 (by decide)) rfl kin_X5_endWindow_X5 23 (by decide) (by decide +kernel) rfl dX5_endWindow_57 ?_
    refine lv_iload_n hx hb dX5_endWindow_60 rfl (lv_at hl 1 rfl) ?_
    refine kr_ild hx hb hK (hm.lv 20 (by decide)) (j := i) ((show i < 12 by omega)) (nI_clamp (ks31 ((show i < 12 by omega)))) (nI_pos (ks31 ((show i < 12 by omega)))) (x := nI ((ku τ 35 0 0) 20 i)) rfl dX5_endWindow_61 ?_
    refine kr_top (y := nI (τ 20 i)) (rfl) ?_
    refine kr_top (y := nI (min (τ 30 0 + 1) (τ 20 i))) (by rw [Nat.min_eq_right (Nat.le_of_not_lt (fun h => nI_ge h (by omega) hc))]) ?_
    refine lv_istore_n (lv' := [(2, .int (nI (min (τ 30 0 + 1) (τ 20 i)))), (0, .ref (bd 0)), (1, .int (nI i))]) hx hb dX5_endWindow_62 rfl hl (by decide) rfl (fun ls hl => ?_)
    refine lv_aload_n hx hb dX5_endWindow_63 rfl (lv_at hl 1 rfl) ?_
    refine kr_get (T := TX5) (N := 28) hx hb hts hown hK (hm.lv 0 (by decide)) rfl kin_X5_endWindow_X5 23 (by decide) (by decide +kernel) rfl dX5_endWindow_64 ?_
    refine lv_iload_n hx hb dX5_endWindow_67 rfl (lv_at hl 2 rfl) ?_
    refine lv_iload_n hx hb dX5_endWindow_68 rfl (lv_at hl 0 rfl) ?_
    refine lv_aload_n hx hb dX5_endWindow_69 rfl (lv_at hl 1 rfl) ?_
    refine kr_get (T := TX5) (N := 28) hx hb hts hown hK (hm.lv 0 (by decide)) rfl kin_X5_endWindow_X5 22 (by decide) (by decide +kernel) rfl dX5_endWindow_70 ?_
    refine lv_iload_n hx hb dX5_endWindow_73 rfl (lv_at hl 2 rfl) ?_
    refine kr_ild hx hb hK (hm.lv 19 (by decide)) (j := i) ((show i < 12 by omega)) (nI_clamp (ks31 ((show i < 12 by omega)))) (nI_pos (ks31 ((show i < 12 by omega)))) (x := nI ((ku τ 35 0 0) 19 i)) rfl dX5_endWindow_74 ?_
    refine kr_top (y := nI (τ 19 i)) (rfl) ?_
    refine lv_icmp_le (tgt := 82) hx hb dX5_endWindow_75 (by decide) (fun hd => ?_) (fun hd => ?_)
    · refine lv_aload_n hx hb dX5_endWindow_82 rfl (lv_at hl 1 rfl) ?_
      refine kr_get (T := TX5) (N := 28) hx hb hts hown hK (hm.lv 0 (by decide)) rfl kin_X5_endWindow_X5 22 (by decide) (by decide +kernel) rfl dX5_endWindow_83 ?_
      refine lv_iload_n hx hb dX5_endWindow_86 rfl (lv_at hl 2 rfl) ?_
      refine kr_ild hx hb hK (hm.lv 19 (by decide)) (j := i) ((show i < 12 by omega)) (nI_clamp (ks31 ((show i < 12 by omega)))) (nI_pos (ks31 ((show i < 12 by omega)))) (x := nI ((ku τ 35 0 0) 19 i)) rfl dX5_endWindow_87 ?_
      refine kr_top (y := nI (τ 19 i)) (rfl) ?_
      refine kr_top (y := nI (max (min (τ 30 0 + 1) (τ 20 i)) (τ 19 i))) (by rw [Nat.max_eq_right (Nat.le_of_not_lt (fun h => nI_ge h (by omega) hd))]) ?_
      refine kr_ist hx hb hK hS (hm.lv 20 (by decide)) (hm.1 20 (by decide)).2 (j := i) (x := nI (max (min (τ 30 0 + 1) (τ 20 i)) (τ 19 i))) ((show i < 12 by omega)) (nI_clamp (ks31 ((show i < 12 by omega)))) (nI_pos (ks31 ((show i < 12 by omega)))) dX5_endWindow_88 (fun H1 locs hU ho hS => ?_)
      have hm := km_p20 (j := i) (v := max (min (τ 30 0 + 1) (τ 20 i)) (τ 19 i)) hm hU ho
      clear hU ho
      refine lv_aload_n hx hb dX5_endWindow_89 rfl (lv_at hl 1 rfl) ?_
      refine kr_get (T := TX5) (N := 28) hx hb hts hown hK (hm.lv 0 (by decide)) rfl kin_X5_endWindow_X5 23 (by decide) (by decide +kernel) rfl dX5_endWindow_90 ?_
      refine lv_iload_n hx hb dX5_endWindow_93 rfl (lv_at hl 2 rfl) ?_
      refine kr_ild hx hb hK (hm.lv 20 (by decide)) (j := i) ((show i < 12 by omega)) (nI_clamp (ks31 ((show i < 12 by omega)))) (nI_pos (ks31 ((show i < 12 by omega)))) (x := nI ((ku (ku τ 35 0 0) 20 i (max (min (τ 30 0 + 1) (τ 20 i)) (τ 19 i))) 20 i)) rfl dX5_endWindow_94 ?_
      refine kr_top (y := nI (max (min (τ 30 0 + 1) (τ 20 i)) (τ 19 i))) (by rw [ku_s]) ?_
      refine lv_aload_n hx hb dX5_endWindow_95 rfl (lv_at hl 1 rfl) ?_
      refine kr_get (T := TX5) (N := 28) hx hb hts hown hK (hm.lv 0 (by decide)) rfl kin_X5_endWindow_X5 22 (by decide) (by decide +kernel) rfl dX5_endWindow_96 ?_
      refine lv_iload_n hx hb dX5_endWindow_99 rfl (lv_at hl 2 rfl) ?_
      refine kr_ild hx hb hK (hm.lv 19 (by decide)) (j := i) ((show i < 12 by omega)) (nI_clamp (ks31 ((show i < 12 by omega)))) (nI_pos (ks31 ((show i < 12 by omega)))) (x := nI ((ku (ku τ 35 0 0) 20 i (max (min (τ 30 0 + 1) (τ 20 i)) (τ 19 i))) 19 i)) rfl dX5_endWindow_100 ?_
      refine kr_top (y := nI (τ 19 i)) (rfl) ?_
      refine lv_isub hx hb dX5_endWindow_101 ?_
      refine kend_i S hr hlocks hS ⟨ksub (Nat.le_max_right _ _), hm⟩ dX5_endWindow_102
    · refine lv_iload_n hx hb dX5_endWindow_78 rfl (lv_at hl 0 rfl) ?_
      refine lv_goto (tgt := 88) hx hb dX5_endWindow_79 (by decide) ?_
      refine kr_top (y := nI (max (min (τ 30 0 + 1) (τ 20 i)) (τ 19 i))) (by rw [Nat.max_eq_left (Nat.le_of_lt (Nat.lt_of_not_le (fun h => hd (nI_le h (by omega)))))]) ?_
      refine kr_ist hx hb hK hS (hm.lv 20 (by decide)) (hm.1 20 (by decide)).2 (j := i) (x := nI (max (min (τ 30 0 + 1) (τ 20 i)) (τ 19 i))) ((show i < 12 by omega)) (nI_clamp (ks31 ((show i < 12 by omega)))) (nI_pos (ks31 ((show i < 12 by omega)))) dX5_endWindow_88 (fun H1 locs hU ho hS => ?_)
      have hm := km_p20 (j := i) (v := max (min (τ 30 0 + 1) (τ 20 i)) (τ 19 i)) hm hU ho
      clear hU ho
      refine lv_aload_n hx hb dX5_endWindow_89 rfl (lv_at hl 1 rfl) ?_
      refine kr_get (T := TX5) (N := 28) hx hb hts hown hK (hm.lv 0 (by decide)) rfl kin_X5_endWindow_X5 23 (by decide) (by decide +kernel) rfl dX5_endWindow_90 ?_
      refine lv_iload_n hx hb dX5_endWindow_93 rfl (lv_at hl 2 rfl) ?_
      refine kr_ild hx hb hK (hm.lv 20 (by decide)) (j := i) ((show i < 12 by omega)) (nI_clamp (ks31 ((show i < 12 by omega)))) (nI_pos (ks31 ((show i < 12 by omega)))) (x := nI ((ku (ku τ 35 0 0) 20 i (max (min (τ 30 0 + 1) (τ 20 i)) (τ 19 i))) 20 i)) rfl dX5_endWindow_94 ?_
      refine kr_top (y := nI (max (min (τ 30 0 + 1) (τ 20 i)) (τ 19 i))) (by rw [ku_s]) ?_
      refine lv_aload_n hx hb dX5_endWindow_95 rfl (lv_at hl 1 rfl) ?_
      refine kr_get (T := TX5) (N := 28) hx hb hts hown hK (hm.lv 0 (by decide)) rfl kin_X5_endWindow_X5 22 (by decide) (by decide +kernel) rfl dX5_endWindow_96 ?_
      refine lv_iload_n hx hb dX5_endWindow_99 rfl (lv_at hl 2 rfl) ?_
      refine kr_ild hx hb hK (hm.lv 19 (by decide)) (j := i) ((show i < 12 by omega)) (nI_clamp (ks31 ((show i < 12 by omega)))) (nI_pos (ks31 ((show i < 12 by omega)))) (x := nI ((ku (ku τ 35 0 0) 20 i (max (min (τ 30 0 + 1) (τ 20 i)) (τ 19 i))) 19 i)) rfl dX5_endWindow_100 ?_
      refine kr_top (y := nI (τ 19 i)) (rfl) ?_
      refine lv_isub hx hb dX5_endWindow_101 ?_
      refine kend_i S hr hlocks hS ⟨ksub (Nat.le_max_right _ _), hm⟩ dX5_endWindow_102
  · refine lv_aload_n hx hb dX5_endWindow_47 rfl (lv_at hl 0 rfl) ?_
    refine kr_get (T := TX5) (N := 28) hx hb hts hown hK (hm.lv 0 (by decide)) rfl kin_X5_endWindow_X5 0 (by decide) (by decide +kernel) rfl dX5_endWindow_48 ?_
    refine lv_iconst (v := 1) hx hb dX5_endWindow_51 (by decide) ?_
    refine lv_iadd hx hb dX5_endWindow_52 ?_
    refine kr_top (y := nI (τ 30 0 + 1)) (nI_1 _) ?_
    refine lv_goto (tgt := 62) hx hb dX5_endWindow_53 (by decide) ?_
    refine kr_top (y := nI (min (τ 30 0 + 1) (τ 20 i))) (by rw [Nat.min_eq_left (Nat.le_of_lt (Nat.lt_of_not_le (fun h => hc (nI_le h (by omega)))))]) ?_
    refine lv_istore_n (lv' := [(2, .int (nI (min (τ 30 0 + 1) (τ 20 i)))), (0, .ref (bd 0)), (1, .int (nI i))]) hx hb dX5_endWindow_62 rfl hl (by decide) rfl (fun ls hl => ?_)
    refine lv_aload_n hx hb dX5_endWindow_63 rfl (lv_at hl 1 rfl) ?_
    refine kr_get (T := TX5) (N := 28) hx hb hts hown hK (hm.lv 0 (by decide)) rfl kin_X5_endWindow_X5 23 (by decide) (by decide +kernel) rfl dX5_endWindow_64 ?_
    refine lv_iload_n hx hb dX5_endWindow_67 rfl (lv_at hl 2 rfl) ?_
    refine lv_iload_n hx hb dX5_endWindow_68 rfl (lv_at hl 0 rfl) ?_
    refine lv_aload_n hx hb dX5_endWindow_69 rfl (lv_at hl 1 rfl) ?_
    refine kr_get (T := TX5) (N := 28) hx hb hts hown hK (hm.lv 0 (by decide)) rfl kin_X5_endWindow_X5 22 (by decide) (by decide +kernel) rfl dX5_endWindow_70 ?_
    refine lv_iload_n hx hb dX5_endWindow_73 rfl (lv_at hl 2 rfl) ?_
    refine kr_ild hx hb hK (hm.lv 19 (by decide)) (j := i) ((show i < 12 by omega)) (nI_clamp (ks31 ((show i < 12 by omega)))) (nI_pos (ks31 ((show i < 12 by omega)))) (x := nI ((ku τ 35 0 0) 19 i)) rfl dX5_endWindow_74 ?_
    refine kr_top (y := nI (τ 19 i)) (rfl) ?_
    refine lv_icmp_le (tgt := 82) hx hb dX5_endWindow_75 (by decide) (fun hd => ?_) (fun hd => ?_)
    · refine lv_aload_n hx hb dX5_endWindow_82 rfl (lv_at hl 1 rfl) ?_
      refine kr_get (T := TX5) (N := 28) hx hb hts hown hK (hm.lv 0 (by decide)) rfl kin_X5_endWindow_X5 22 (by decide) (by decide +kernel) rfl dX5_endWindow_83 ?_
      refine lv_iload_n hx hb dX5_endWindow_86 rfl (lv_at hl 2 rfl) ?_
      refine kr_ild hx hb hK (hm.lv 19 (by decide)) (j := i) ((show i < 12 by omega)) (nI_clamp (ks31 ((show i < 12 by omega)))) (nI_pos (ks31 ((show i < 12 by omega)))) (x := nI ((ku τ 35 0 0) 19 i)) rfl dX5_endWindow_87 ?_
      refine kr_top (y := nI (τ 19 i)) (rfl) ?_
      refine kr_top (y := nI (max (min (τ 30 0 + 1) (τ 20 i)) (τ 19 i))) (by rw [Nat.max_eq_right (Nat.le_of_not_lt (fun h => nI_ge h (by omega) hd))]) ?_
      refine kr_ist hx hb hK hS (hm.lv 20 (by decide)) (hm.1 20 (by decide)).2 (j := i) (x := nI (max (min (τ 30 0 + 1) (τ 20 i)) (τ 19 i))) ((show i < 12 by omega)) (nI_clamp (ks31 ((show i < 12 by omega)))) (nI_pos (ks31 ((show i < 12 by omega)))) dX5_endWindow_88 (fun H1 locs hU ho hS => ?_)
      have hm := km_p20 (j := i) (v := max (min (τ 30 0 + 1) (τ 20 i)) (τ 19 i)) hm hU ho
      clear hU ho
      refine lv_aload_n hx hb dX5_endWindow_89 rfl (lv_at hl 1 rfl) ?_
      refine kr_get (T := TX5) (N := 28) hx hb hts hown hK (hm.lv 0 (by decide)) rfl kin_X5_endWindow_X5 23 (by decide) (by decide +kernel) rfl dX5_endWindow_90 ?_
      refine lv_iload_n hx hb dX5_endWindow_93 rfl (lv_at hl 2 rfl) ?_
      refine kr_ild hx hb hK (hm.lv 20 (by decide)) (j := i) ((show i < 12 by omega)) (nI_clamp (ks31 ((show i < 12 by omega)))) (nI_pos (ks31 ((show i < 12 by omega)))) (x := nI ((ku (ku τ 35 0 0) 20 i (max (min (τ 30 0 + 1) (τ 20 i)) (τ 19 i))) 20 i)) rfl dX5_endWindow_94 ?_
      refine kr_top (y := nI (max (min (τ 30 0 + 1) (τ 20 i)) (τ 19 i))) (by rw [ku_s]) ?_
      refine lv_aload_n hx hb dX5_endWindow_95 rfl (lv_at hl 1 rfl) ?_
      refine kr_get (T := TX5) (N := 28) hx hb hts hown hK (hm.lv 0 (by decide)) rfl kin_X5_endWindow_X5 22 (by decide) (by decide +kernel) rfl dX5_endWindow_96 ?_
      refine lv_iload_n hx hb dX5_endWindow_99 rfl (lv_at hl 2 rfl) ?_
      refine kr_ild hx hb hK (hm.lv 19 (by decide)) (j := i) ((show i < 12 by omega)) (nI_clamp (ks31 ((show i < 12 by omega)))) (nI_pos (ks31 ((show i < 12 by omega)))) (x := nI ((ku (ku τ 35 0 0) 20 i (max (min (τ 30 0 + 1) (τ 20 i)) (τ 19 i))) 19 i)) rfl dX5_endWindow_100 ?_
      refine kr_top (y := nI (τ 19 i)) (rfl) ?_
      refine lv_isub hx hb dX5_endWindow_101 ?_
      refine kend_i S hr hlocks hS ⟨ksub (Nat.le_max_right _ _), hm⟩ dX5_endWindow_102
    · refine lv_iload_n hx hb dX5_endWindow_78 rfl (lv_at hl 0 rfl) ?_
      refine lv_goto (tgt := 88) hx hb dX5_endWindow_79 (by decide) ?_
      refine kr_top (y := nI (max (min (τ 30 0 + 1) (τ 20 i)) (τ 19 i))) (by rw [Nat.max_eq_left (Nat.le_of_lt (Nat.lt_of_not_le (fun h => hd (nI_le h (by omega)))))]) ?_
      refine kr_ist hx hb hK hS (hm.lv 20 (by decide)) (hm.1 20 (by decide)).2 (j := i) (x := nI (max (min (τ 30 0 + 1) (τ 20 i)) (τ 19 i))) ((show i < 12 by omega)) (nI_clamp (ks31 ((show i < 12 by omega)))) (nI_pos (ks31 ((show i < 12 by omega)))) dX5_endWindow_88 (fun H1 locs hU ho hS => ?_)
      have hm := km_p20 (j := i) (v := max (min (τ 30 0 + 1) (τ 20 i)) (τ 19 i)) hm hU ho
      clear hU ho
      refine lv_aload_n hx hb dX5_endWindow_89 rfl (lv_at hl 1 rfl) ?_
      refine kr_get (T := TX5) (N := 28) hx hb hts hown hK (hm.lv 0 (by decide)) rfl kin_X5_endWindow_X5 23 (by decide) (by decide +kernel) rfl dX5_endWindow_90 ?_
      refine lv_iload_n hx hb dX5_endWindow_93 rfl (lv_at hl 2 rfl) ?_
      refine kr_ild hx hb hK (hm.lv 20 (by decide)) (j := i) ((show i < 12 by omega)) (nI_clamp (ks31 ((show i < 12 by omega)))) (nI_pos (ks31 ((show i < 12 by omega)))) (x := nI ((ku (ku τ 35 0 0) 20 i (max (min (τ 30 0 + 1) (τ 20 i)) (τ 19 i))) 20 i)) rfl dX5_endWindow_94 ?_
      refine kr_top (y := nI (max (min (τ 30 0 + 1) (τ 20 i)) (τ 19 i))) (by rw [ku_s]) ?_
      refine lv_aload_n hx hb dX5_endWindow_95 rfl (lv_at hl 1 rfl) ?_
      refine kr_get (T := TX5) (N := 28) hx hb hts hown hK (hm.lv 0 (by decide)) rfl kin_X5_endWindow_X5 22 (by decide) (by decide +kernel) rfl dX5_endWindow_96 ?_
      refine lv_iload_n hx hb dX5_endWindow_99 rfl (lv_at hl 2 rfl) ?_
      refine kr_ild hx hb hK (hm.lv 19 (by decide)) (j := i) ((show i < 12 by omega)) (nI_clamp (ks31 ((show i < 12 by omega)))) (nI_pos (ks31 ((show i < 12 by omega)))) (x := nI ((ku (ku τ 35 0 0) 20 i (max (min (τ 30 0 + 1) (τ 20 i)) (τ 19 i))) 19 i)) rfl dX5_endWindow_100 ?_
      refine kr_top (y := nI (τ 19 i)) (rfl) ?_
      refine lv_isub hx hb dX5_endWindow_101 ?_
      refine kend_i S hr hlocks hS ⟨ksub (Nat.le_max_right _ _), hm⟩ dX5_endWindow_102
set_option maxHeartbeats 4000000 in
set_option maxRecDepth 100000 in
theorem cm_endWindowX (ε : kEnv) (l : Launch) {A : Nat → Prop} {bd : Nat → Nat} {τ : kS} {H : Heap} {x : Int32} (hAb : ∀ q, A q → kHi ε q) (hm : kM ε A bd τ H) (hB : mB τ) (h : x < 0 ∨ nI (τ 33 0) ≤ x) : kMi ε l yX5_endWindow wsX5_endWindow ({ frames := 6, cells := 0, slots := 0, locals := 140 }) [.ref (bd 0), .int x] H A (0) (0) (fun v9 H' => v9 = 0 ∧ kM ε A bd (mT τ 1) H') := by
  refine kof (cc := cX5_endWindow) (maxL := 3) (ret := (some .int)) (by decide) rfl (Nat.le_of_ble_eq_true rfl) ?_
  intro p e s m below meth c ls S hr hlocks hin hH hE hl
  have S : CallFix p m c cX5_endWindow 3 s _ wsX5_endWindow RX5 := S
  have hx := S.1
  have hb := S.2.1
  have hown : s.vm.findClass RX5 = some m.cls := S.2.2.2.1
  have hts := S.2.2.2.2
  have hK := hE.1
  have hS : va_S A s.heap H [] := by rw [hH]; exact va_S.rf
  have hl : lv_has ls 3 [(0, .ref (bd 0)), (1, .int x)] := hl
  have hnR := hB.nR
  have hnC := hB.nC
  have hnW := hB.nW
  have hnA := hB.nA
  have hmn := hB.min
  refine lv_aload_n hx hb dX5_endWindow_0 rfl (lv_at hl 0 rfl) ?_
  refine lv_iload_n hx hb dX5_endWindow_1 rfl (lv_at hl 1 rfl) ?_
  refine lv_iconst (v := 0) hx hb dX5_endWindow_2 (by decide) ?_
  refine lv_aload_n hx hb dX5_endWindow_3 rfl (lv_at hl 0 rfl) ?_
  refine kr_get (T := TX5) (N := 28) hx hb hts hown hK (hm.lv 0 (by decide)) rfl kin_X5_endWindow_X5 20 (by decide) (by decide +kernel) rfl dX5_endWindow_4 ?_
  refine lv_iconst (v := 1) hx hb dX5_endWindow_7 (by decide) ?_
  refine lv_isub hx hb dX5_endWindow_8 ?_
  refine kgo_pi (v := 0) (kc_S (As := [.int x, .int 0, .int ((nI (τ 33 0) - 1))]) (rest := [.ref (bd 0)]) S hE hS hAb (cm_isInF ε l (nI_out (by omega) h)) (va_cwS 3 hts gX5_endWindow_X5_isIn rfl rfl rfl (by decide +kernel) ⟨Nat.le_of_ble_eq_true rfl, Nat.le_of_ble_eq_true rfl⟩) rfl hl.1 rfl (Nat.le_of_ble_eq_true rfl) dX5_endWindow_9 ⟨Nat.zero_le _, Nat.zero_le _⟩) hS (fun locs hS => ?_)
  refine lv_if_eq (tgt := 19) hx hb dX5_endWindow_12 (by decide) (fun _ => ?_) (fun hc => absurd (by decide) hc)
  refine lv_iconst (v := 1) hx hb dX5_endWindow_19 (by decide) ?_
  refine kr_top (y := nI 1) (rfl) ?_
  refine kr_put (T := TX5) (N := 28) (v := .int (nI 1)) (ty := .int) hx hb hts hown hK hS (hm.lv 0 (by decide)) (hm.1 0 (by decide)).2 rfl kin_X5_endWindow_X5 tyX5 tyX5_ok nmX5 27 (by decide) "ProbewebModel" (hts (.fieldLink RX5 78 "ProbewebModel" "thrown" "I") (by decide +kernel)) (fun _ h => h) rfl (by decide +kernel) rfl rfl (Nat.le_of_ble_eq_true rfl) dX5_endWindow_20 (fun H1 locs hU ho hS => ?_)
  have hm := km_p35 (v := 1) hm hU ho
  clear hU ho
  have hB : mB (mT τ 1) := hB
  refine lv_aload_n hx hb dX5_endWindow_23 rfl (lv_at hl 0 rfl) ?_
  refine kr_get (T := TX5) (N := 28) hx hb hts hown hK (hm.lv 0 (by decide)) rfl kin_X5_endWindow_X5 27 (by decide) (by decide +kernel) rfl dX5_endWindow_24 ?_
  refine kr_top (y := 1) (rfl) ?_
  refine lv_if_le (tgt := 32) hx hb dX5_endWindow_27 (by decide) (fun hc => absurd hc (by decide)) (fun _ => ?_)
  refine lv_iconst (v := 0) hx hb dX5_endWindow_30 (by decide) ?_
  refine kend_i S hr hlocks hS ⟨rfl, hm⟩ dX5_endWindow_31
theorem kin_X5_addCheck_X5 : ∀ w ∈ wsX50, w ∈ wsX5_addCheck := by decide +kernel
set_option maxHeartbeats 4000000 in
set_option maxRecDepth 100000 in
theorem cm_addCheck (ε : kEnv) (l : Launch) {A : Nat → Prop} {bd : Nat → Nat} {τ : kS} {H : Heap} {t1 t2 t3 t4 : Nat} (hAb : ∀ q, A q → kHi ε q) (hm : kM ε A bd τ H) (hB : mB τ) (h1a : 1 ≤ t1) (h1b : t1 ≤ 60) (h2b : t2 ≤ 1000) (h3b : t3 ≤ 3) (h4a : 1 ≤ t4) (h4b : t4 ≤ 6) (hn8 : τ 32 0 < 8) : kMi ε l yX5_addCheck wsX5_addCheck ({ frames := 6, cells := 0, slots := 0, locals := 140 }) [.ref (bd 0), .int (nI t1), .int (nI t2), .int (nI t3), .int (nI t4)] H A (0) (0) (fun v9 H' => v9 = nI (τ 32 0) ∧ kM ε A bd (ku (ku (ku (ku (ku (ku (mT τ 0) 6 (τ 32 0) t1) 7 (τ 32 0) t2) 8 (τ 32 0) t3) 9 (τ 32 0) t4) 11 (τ 32 0) 0) 32 0 (τ 32 0 + 1)) H') := by
  refine kof (cc := cX5_addCheck) (maxL := 6) (ret := (some .int)) (by decide) rfl (Nat.le_of_ble_eq_true rfl) ?_
  intro p e s m below meth c ls S hr hlocks hin hH hE hl
  have S : CallFix p m c cX5_addCheck 6 s _ wsX5_addCheck RX5 := S
  have hx := S.1
  have hb := S.2.1
  have hown : s.vm.findClass RX5 = some m.cls := S.2.2.2.1
  have hts := S.2.2.2.2
  have hK := hE.1
  have hS : va_S A s.heap H [] := by rw [hH]; exact va_S.rf
  have hl : lv_has ls 6 [(0, .ref (bd 0)), (1, .int (nI t1)), (2, .int (nI t2)), (3, .int (nI t3)), (4, .int (nI t4))] := hl
  have hnR := hB.nR
  have hnC := hB.nC
  have hnW := hB.nW
  have hnA := hB.nA
  have hmn := hB.min
  refine lv_iload_n hx hb dX5_addCheck_0 rfl (lv_at hl 1 rfl) ?_
  refine lv_iconst (v := 1) hx hb dX5_addCheck_1 (by decide) ?_
  refine lv_bipush (v := 60) hx hb dX5_addCheck_2 (by decide) ?_
  refine kgo_pi (v := 1) (kc_S (As := [.int (nI t1), .int 1, .int 60]) (rest := []) S hE hS hAb (cm_isInT ε l (nI_nlt (a := t1) (b := 1) h1a (by omega)) ((nI_leI (a := t1) (b := 60) (by omega) (by decide)).mpr h1b)) (va_cwS 3 hts gX5_addCheck_X5_isIn rfl rfl rfl (by decide +kernel) ⟨Nat.le_of_ble_eq_true rfl, Nat.le_of_ble_eq_true rfl⟩) rfl hl.1 rfl (Nat.le_of_ble_eq_true rfl) dX5_addCheck_4 ⟨Nat.zero_le _, Nat.zero_le _⟩) hS (fun locs hS => ?_)
  refine lv_if_eq (tgt := 45) hx hb dX5_addCheck_7 (by decide) (fun hc => absurd hc (by decide)) (fun _ => ?_)
  refine lv_iload_n hx hb dX5_addCheck_10 rfl (lv_at hl 2 rfl) ?_
  refine lv_iconst (v := 0) hx hb dX5_addCheck_11 (by decide) ?_
  refine lv_sipush (v := 1000) hx hb dX5_addCheck_12 (by decide) ?_
  refine kgo_pi (v := 1) (kc_S (As := [.int (nI t2), .int 0, .int 1000]) (rest := []) S hE hS hAb (cm_isInT ε l (nI_nlt (a := t2) (b := 0) (Nat.zero_le _) (by omega)) ((nI_leI (a := t2) (b := 1000) (by omega) (by decide)).mpr h2b)) (va_cwS 3 hts gX5_addCheck_X5_isIn rfl rfl rfl (by decide +kernel) ⟨Nat.le_of_ble_eq_true rfl, Nat.le_of_ble_eq_true rfl⟩) rfl hl.1 rfl (Nat.le_of_ble_eq_true rfl) dX5_addCheck_15 ⟨Nat.zero_le _, Nat.zero_le _⟩) hS (fun locs hS => ?_)
  refine lv_if_eq (tgt := 45) hx hb dX5_addCheck_18 (by decide) (fun hc => absurd hc (by decide)) (fun _ => ?_)
  refine lv_iload_n hx hb dX5_addCheck_21 rfl (lv_at hl 3 rfl) ?_
  refine lv_iconst (v := 0) hx hb dX5_addCheck_22 (by decide) ?_
  refine lv_iconst (v := 3) hx hb dX5_addCheck_23 (by decide) ?_
  refine kgo_pi (v := 1) (kc_S (As := [.int (nI t3), .int 0, .int 3]) (rest := []) S hE hS hAb (cm_isInT ε l (nI_nlt (a := t3) (b := 0) (Nat.zero_le _) (by omega)) ((nI_leI (a := t3) (b := 3) (by omega) (by decide)).mpr h3b)) (va_cwS 3 hts gX5_addCheck_X5_isIn rfl rfl rfl (by decide +kernel) ⟨Nat.le_of_ble_eq_true rfl, Nat.le_of_ble_eq_true rfl⟩) rfl hl.1 rfl (Nat.le_of_ble_eq_true rfl) dX5_addCheck_24 ⟨Nat.zero_le _, Nat.zero_le _⟩) hS (fun locs hS => ?_)
  refine lv_if_eq (tgt := 45) hx hb dX5_addCheck_27 (by decide) (fun hc => absurd hc (by decide)) (fun _ => ?_)
  refine lv_iload hx hb dX5_addCheck_30 (lv_at hl 4 rfl) ?_
  refine lv_iconst (v := 1) hx hb dX5_addCheck_32 (by decide) ?_
  refine lv_bipush (v := 6) hx hb dX5_addCheck_33 (by decide) ?_
  refine kgo_pi (v := 1) (kc_S (As := [.int (nI t4), .int 1, .int 6]) (rest := []) S hE hS hAb (cm_isInT ε l (nI_nlt (a := t4) (b := 1) h4a (by omega)) ((nI_leI (a := t4) (b := 6) (by omega) (by decide)).mpr h4b)) (va_cwS 3 hts gX5_addCheck_X5_isIn rfl rfl rfl (by decide +kernel) ⟨Nat.le_of_ble_eq_true rfl, Nat.le_of_ble_eq_true rfl⟩) rfl hl.1 rfl (Nat.le_of_ble_eq_true rfl) dX5_addCheck_35 ⟨Nat.zero_le _, Nat.zero_le _⟩) hS (fun locs hS => ?_)
  refine lv_if_eq (tgt := 45) hx hb dX5_addCheck_38 (by decide) (fun hc => absurd hc (by decide)) (fun _ => ?_)
  refine lv_iconst (v := 1) hx hb dX5_addCheck_41 (by decide) ?_
  refine lv_goto (tgt := 46) hx hb dX5_addCheck_42 (by decide) ?_
  refine lv_istore (lv' := [(5, .int 1), (0, .ref (bd 0)), (1, .int (nI t1)), (2, .int (nI t2)), (3, .int (nI t3)), (4, .int (nI t4))]) hx hb dX5_addCheck_46 hl (by decide) rfl (fun ls hl => ?_)
  refine lv_aload_n hx hb dX5_addCheck_48 rfl (lv_at hl 1 rfl) ?_
  refine lv_iload hx hb dX5_addCheck_49 (lv_at hl 0 rfl) ?_
  refine lv_if_ne (tgt := 58) hx hb dX5_addCheck_51 (by decide) (fun _ => ?_) (fun hc => absurd hc (by decide))
  refine lv_aload_n hx hb dX5_addCheck_58 rfl (lv_at hl 1 rfl) ?_
  refine kr_get (T := TX5) (N := 28) hx hb hts hown hK (hm.lv 0 (by decide)) rfl kin_X5_addCheck_X5 7 (by decide) (by decide +kernel) rfl dX5_addCheck_59 ?_
  refine lv_bipush (v := 8) hx hb dX5_addCheck_62 (by decide) ?_
  refine lv_icmp_ne (tgt := 71) hx hb dX5_addCheck_64 (by decide) (fun _ => ?_) (fun hc => absurd ((nI_eq (a := τ 32 0) (b := 8) (by omega) (by decide)).mp hc) (by omega))
  refine lv_iconst (v := 0) hx hb dX5_addCheck_71 (by decide) ?_
  refine kr_top (y := nI 0) (rfl) ?_
  refine kr_put (T := TX5) (N := 28) (v := .int (nI 0)) (ty := .int) hx hb hts hown hK hS (hm.lv 0 (by decide)) (hm.1 0 (by decide)).2 rfl kin_X5_addCheck_X5 tyX5 tyX5_ok nmX5 27 (by decide) "ProbewebModel" (hts (.fieldLink RX5 78 "ProbewebModel" "thrown" "I") (by decide +kernel)) (fun _ h => h) rfl (by decide +kernel) rfl rfl (Nat.le_of_ble_eq_true rfl) dX5_addCheck_72 (fun H1 locs hU ho hS => ?_)
  have hm := km_p35 (v := 0) hm hU ho
  clear hU ho
  have hB : mB (mT τ 0) := hB
  refine lv_aload_n hx hb dX5_addCheck_75 rfl (lv_at hl 1 rfl) ?_
  refine kr_get (T := TX5) (N := 28) hx hb hts hown hK (hm.lv 0 (by decide)) rfl kin_X5_addCheck_X5 27 (by decide) (by decide +kernel) rfl dX5_addCheck_76 ?_
  refine kr_top (y := 0) (rfl) ?_
  refine lv_if_le (tgt := 84) hx hb dX5_addCheck_79 (by decide) (fun _ => ?_) (fun hc => absurd (by decide) hc)
  refine lv_aload_n hx hb dX5_addCheck_84 rfl (lv_at hl 1 rfl) ?_
  refine kr_get (T := TX5) (N := 28) hx hb hts hown hK (hm.lv 0 (by decide)) rfl kin_X5_addCheck_X5 8 (by decide) (by decide +kernel) rfl dX5_addCheck_85 ?_
  refine lv_aload_n hx hb dX5_addCheck_88 rfl (lv_at hl 1 rfl) ?_
  refine kr_get (T := TX5) (N := 28) hx hb hts hown hK (hm.lv 0 (by decide)) rfl kin_X5_addCheck_X5 7 (by decide) (by decide +kernel) rfl dX5_addCheck_89 ?_
  refine lv_iload_n hx hb dX5_addCheck_92 rfl (lv_at hl 2 rfl) ?_
  refine kr_ist hx hb hK hS (hm.lv 6 (by decide)) (hm.1 6 (by decide)).2 (j := τ 32 0) (x := nI t1) ((show τ 32 0 < 8 from hn8)) (nI_clamp (ks31 ((show τ 32 0 < 8 from hn8)))) (nI_pos (ks31 ((show τ 32 0 < 8 from hn8)))) dX5_addCheck_93 (fun H1 locs hU ho hS => ?_)
  have hm := km_p6 (j := τ 32 0) (v := t1) hm hU ho
  clear hU ho
  refine lv_aload_n hx hb dX5_addCheck_94 rfl (lv_at hl 1 rfl) ?_
  refine kr_get (T := TX5) (N := 28) hx hb hts hown hK (hm.lv 0 (by decide)) rfl kin_X5_addCheck_X5 9 (by decide) (by decide +kernel) rfl dX5_addCheck_95 ?_
  refine lv_aload_n hx hb dX5_addCheck_98 rfl (lv_at hl 1 rfl) ?_
  refine kr_get (T := TX5) (N := 28) hx hb hts hown hK (hm.lv 0 (by decide)) rfl kin_X5_addCheck_X5 7 (by decide) (by decide +kernel) rfl dX5_addCheck_99 ?_
  refine lv_iload_n hx hb dX5_addCheck_102 rfl (lv_at hl 3 rfl) ?_
  refine kr_ist hx hb hK hS (hm.lv 7 (by decide)) (hm.1 7 (by decide)).2 (j := τ 32 0) (x := nI t2) ((show τ 32 0 < 8 from hn8)) (nI_clamp (ks31 ((show τ 32 0 < 8 from hn8)))) (nI_pos (ks31 ((show τ 32 0 < 8 from hn8)))) dX5_addCheck_103 (fun H1 locs hU ho hS => ?_)
  have hm := km_p7 (j := τ 32 0) (v := t2) hm hU ho
  clear hU ho
  refine lv_aload_n hx hb dX5_addCheck_104 rfl (lv_at hl 1 rfl) ?_
  refine kr_get (T := TX5) (N := 28) hx hb hts hown hK (hm.lv 0 (by decide)) rfl kin_X5_addCheck_X5 10 (by decide) (by decide +kernel) rfl dX5_addCheck_105 ?_
  refine lv_aload_n hx hb dX5_addCheck_108 rfl (lv_at hl 1 rfl) ?_
  refine kr_get (T := TX5) (N := 28) hx hb hts hown hK (hm.lv 0 (by decide)) rfl kin_X5_addCheck_X5 7 (by decide) (by decide +kernel) rfl dX5_addCheck_109 ?_
  refine lv_iload_n hx hb dX5_addCheck_112 rfl (lv_at hl 4 rfl) ?_
  refine kr_ist hx hb hK hS (hm.lv 8 (by decide)) (hm.1 8 (by decide)).2 (j := τ 32 0) (x := nI t3) ((show τ 32 0 < 8 from hn8)) (nI_clamp (ks31 ((show τ 32 0 < 8 from hn8)))) (nI_pos (ks31 ((show τ 32 0 < 8 from hn8)))) dX5_addCheck_113 (fun H1 locs hU ho hS => ?_)
  have hm := km_p8 (j := τ 32 0) (v := t3) hm hU ho
  clear hU ho
  refine lv_aload_n hx hb dX5_addCheck_114 rfl (lv_at hl 1 rfl) ?_
  refine kr_get (T := TX5) (N := 28) hx hb hts hown hK (hm.lv 0 (by decide)) rfl kin_X5_addCheck_X5 11 (by decide) (by decide +kernel) rfl dX5_addCheck_115 ?_
  refine lv_aload_n hx hb dX5_addCheck_118 rfl (lv_at hl 1 rfl) ?_
  refine kr_get (T := TX5) (N := 28) hx hb hts hown hK (hm.lv 0 (by decide)) rfl kin_X5_addCheck_X5 7 (by decide) (by decide +kernel) rfl dX5_addCheck_119 ?_
  refine lv_iload hx hb dX5_addCheck_122 (lv_at hl 5 rfl) ?_
  refine kr_ist hx hb hK hS (hm.lv 9 (by decide)) (hm.1 9 (by decide)).2 (j := τ 32 0) (x := nI t4) ((show τ 32 0 < 8 from hn8)) (nI_clamp (ks31 ((show τ 32 0 < 8 from hn8)))) (nI_pos (ks31 ((show τ 32 0 < 8 from hn8)))) dX5_addCheck_124 (fun H1 locs hU ho hS => ?_)
  have hm := km_p9 (j := τ 32 0) (v := t4) hm hU ho
  clear hU ho
  refine lv_aload_n hx hb dX5_addCheck_125 rfl (lv_at hl 1 rfl) ?_
  refine kr_get (T := TX5) (N := 28) hx hb hts hown hK (hm.lv 0 (by decide)) rfl kin_X5_addCheck_X5 13 (by decide) (by decide +kernel) rfl dX5_addCheck_126 ?_
  refine lv_aload_n hx hb dX5_addCheck_129 rfl (lv_at hl 1 rfl) ?_
  refine kr_get (T := TX5) (N := 28) hx hb hts hown hK (hm.lv 0 (by decide)) rfl kin_X5_addCheck_X5 7 (by decide) (by decide +kernel) rfl dX5_addCheck_130 ?_
  refine lv_iconst (v := -1) hx hb dX5_addCheck_133 (by decide) ?_
  refine kr_top (y := mI 0) (rfl) ?_
  refine kr_ist hx hb hK hS (hm.lv 11 (by decide)) (hm.1 11 (by decide)).2 (j := τ 32 0) (x := mI 0) ((show τ 32 0 < 8 from hn8)) (nI_clamp (ks31 ((show τ 32 0 < 8 from hn8)))) (nI_pos (ks31 ((show τ 32 0 < 8 from hn8)))) dX5_addCheck_134 (fun H1 locs hU ho hS => ?_)
  have hm := km_p11 (j := τ 32 0) (v := 0) hm hU ho
  clear hU ho
  refine lv_aload_n hx hb dX5_addCheck_135 rfl (lv_at hl 1 rfl) ?_
  refine lv_dup hx hb dX5_addCheck_136 rfl ?_
  refine kr_get (T := TX5) (N := 28) hx hb hts hown hK (hm.lv 0 (by decide)) rfl kin_X5_addCheck_X5 7 (by decide) (by decide +kernel) rfl dX5_addCheck_137 ?_
  refine lv_iconst (v := 1) hx hb dX5_addCheck_140 (by decide) ?_
  refine lv_iadd hx hb dX5_addCheck_141 ?_
  refine kr_top (y := nI (τ 32 0 + 1)) (nI_1 _) ?_
  refine kr_put (T := TX5) (N := 28) (v := .int (nI (τ 32 0 + 1))) (ty := .int) hx hb hts hown hK hS (hm.lv 0 (by decide)) (hm.1 0 (by decide)).2 rfl kin_X5_addCheck_X5 tyX5 tyX5_ok nmX5 7 (by decide) "ProbewebModel" (hts (.fieldLink RX5 89 "ProbewebModel" "checks" "I") (by decide +kernel)) (fun _ h => h) rfl (by decide +kernel) rfl rfl (Nat.le_of_ble_eq_true rfl) dX5_addCheck_142 (fun H1 locs hU ho hS => ?_)
  have hm := km_p32 (v := τ 32 0 + 1) hm hU ho
  clear hU ho
  refine lv_aload_n hx hb dX5_addCheck_145 rfl (lv_at hl 1 rfl) ?_
  refine kr_get (T := TX5) (N := 28) hx hb hts hown hK (hm.lv 0 (by decide)) rfl kin_X5_addCheck_X5 7 (by decide) (by decide +kernel) rfl dX5_addCheck_146 ?_
  refine lv_iconst (v := 1) hx hb dX5_addCheck_149 (by decide) ?_
  refine lv_isub hx hb dX5_addCheck_150 ?_
  refine kr_top (y := nI (τ 32 0)) (nI_pred _) ?_
  refine kend_i S hr hlocks hS ⟨rfl, hm⟩ dX5_addCheck_151
set_option maxHeartbeats 4000000 in
set_option maxRecDepth 100000 in
theorem cm_addCheckX1 (ε : kEnv) (l : Launch) {A : Nat → Prop} {bd : Nat → Nat} {τ : kS} {H : Heap} {x1 x2 x3 x4 : Int32} (hAb : ∀ q, A q → kHi ε q) (hm : kM ε A bd τ H) (hB : mB τ) (h : x1 < 1 ∨ ¬ x1 ≤ 60) : kMi ε l yX5_addCheck wsX5_addCheck ({ frames := 6, cells := 0, slots := 0, locals := 140 }) [.ref (bd 0), .int x1, .int x2, .int x3, .int x4] H A (0) (0) (fun v9 H' => v9 = 0 ∧ kM ε A bd (mT τ 1) H') := by
  refine kof (cc := cX5_addCheck) (maxL := 6) (ret := (some .int)) (by decide) rfl (Nat.le_of_ble_eq_true rfl) ?_
  intro p e s m below meth c ls S hr hlocks hin hH hE hl
  have S : CallFix p m c cX5_addCheck 6 s _ wsX5_addCheck RX5 := S
  have hx := S.1
  have hb := S.2.1
  have hown : s.vm.findClass RX5 = some m.cls := S.2.2.2.1
  have hts := S.2.2.2.2
  have hK := hE.1
  have hS : va_S A s.heap H [] := by rw [hH]; exact va_S.rf
  have hl : lv_has ls 6 [(0, .ref (bd 0)), (1, .int x1), (2, .int x2), (3, .int x3), (4, .int x4)] := hl
  have hnR := hB.nR
  have hnC := hB.nC
  have hnW := hB.nW
  have hnA := hB.nA
  have hmn := hB.min
  refine lv_iload_n hx hb dX5_addCheck_0 rfl (lv_at hl 1 rfl) ?_
  refine lv_iconst (v := 1) hx hb dX5_addCheck_1 (by decide) ?_
  refine lv_bipush (v := 60) hx hb dX5_addCheck_2 (by decide) ?_
  refine kgo_pi (v := 0) (kc_S (As := [.int x1, .int 1, .int 60]) (rest := []) S hE hS hAb (cm_isInF ε l h) (va_cwS 3 hts gX5_addCheck_X5_isIn rfl rfl rfl (by decide +kernel) ⟨Nat.le_of_ble_eq_true rfl, Nat.le_of_ble_eq_true rfl⟩) rfl hl.1 rfl (Nat.le_of_ble_eq_true rfl) dX5_addCheck_4 ⟨Nat.zero_le _, Nat.zero_le _⟩) hS (fun locs hS => ?_)
  refine lv_if_eq (tgt := 45) hx hb dX5_addCheck_7 (by decide) (fun _ => ?_) (fun hc => absurd (by decide) hc)
  refine lv_iconst (v := 0) hx hb dX5_addCheck_45 (by decide) ?_
  refine lv_istore (lv' := [(5, .int 0), (0, .ref (bd 0)), (1, .int x1), (2, .int x2), (3, .int x3), (4, .int x4)]) hx hb dX5_addCheck_46 hl (by decide) rfl (fun ls hl => ?_)
  refine lv_aload_n hx hb dX5_addCheck_48 rfl (lv_at hl 1 rfl) ?_
  refine lv_iload hx hb dX5_addCheck_49 (lv_at hl 0 rfl) ?_
  refine lv_if_ne (tgt := 58) hx hb dX5_addCheck_51 (by decide) (fun hc => absurd (by decide) hc) (fun _ => ?_)
  refine lv_iconst (v := 1) hx hb dX5_addCheck_54 (by decide) ?_
  refine lv_goto (tgt := 72) hx hb dX5_addCheck_55 (by decide) ?_
  refine kr_top (y := nI 1) (rfl) ?_
  refine kr_put (T := TX5) (N := 28) (v := .int (nI 1)) (ty := .int) hx hb hts hown hK hS (hm.lv 0 (by decide)) (hm.1 0 (by decide)).2 rfl kin_X5_addCheck_X5 tyX5 tyX5_ok nmX5 27 (by decide) "ProbewebModel" (hts (.fieldLink RX5 78 "ProbewebModel" "thrown" "I") (by decide +kernel)) (fun _ h => h) rfl (by decide +kernel) rfl rfl (Nat.le_of_ble_eq_true rfl) dX5_addCheck_72 (fun H1 locs hU ho hS => ?_)
  have hm := km_p35 (v := 1) hm hU ho
  clear hU ho
  have hB : mB (mT τ 1) := hB
  refine lv_aload_n hx hb dX5_addCheck_75 rfl (lv_at hl 1 rfl) ?_
  refine kr_get (T := TX5) (N := 28) hx hb hts hown hK (hm.lv 0 (by decide)) rfl kin_X5_addCheck_X5 27 (by decide) (by decide +kernel) rfl dX5_addCheck_76 ?_
  refine kr_top (y := 1) (rfl) ?_
  refine lv_if_le (tgt := 84) hx hb dX5_addCheck_79 (by decide) (fun hc => absurd hc (by decide)) (fun _ => ?_)
  refine lv_iconst (v := 0) hx hb dX5_addCheck_82 (by decide) ?_
  refine kend_i S hr hlocks hS ⟨rfl, hm⟩ dX5_addCheck_83
set_option maxHeartbeats 4000000 in
set_option maxRecDepth 100000 in
theorem cm_addCheckX2 (ε : kEnv) (l : Launch) {A : Nat → Prop} {bd : Nat → Nat} {τ : kS} {H : Heap} {x1 x2 x3 x4 : Int32} (hAb : ∀ q, A q → kHi ε q) (hm : kM ε A bd τ H) (hB : mB τ) (a1 : ¬ x1 < 1) (b1 : x1 ≤ 60) (h : x2 < 0 ∨ ¬ x2 ≤ 1000) : kMi ε l yX5_addCheck wsX5_addCheck ({ frames := 6, cells := 0, slots := 0, locals := 140 }) [.ref (bd 0), .int x1, .int x2, .int x3, .int x4] H A (0) (0) (fun v9 H' => v9 = 0 ∧ kM ε A bd (mT τ 1) H') := by
  refine kof (cc := cX5_addCheck) (maxL := 6) (ret := (some .int)) (by decide) rfl (Nat.le_of_ble_eq_true rfl) ?_
  intro p e s m below meth c ls S hr hlocks hin hH hE hl
  have S : CallFix p m c cX5_addCheck 6 s _ wsX5_addCheck RX5 := S
  have hx := S.1
  have hb := S.2.1
  have hown : s.vm.findClass RX5 = some m.cls := S.2.2.2.1
  have hts := S.2.2.2.2
  have hK := hE.1
  have hS : va_S A s.heap H [] := by rw [hH]; exact va_S.rf
  have hl : lv_has ls 6 [(0, .ref (bd 0)), (1, .int x1), (2, .int x2), (3, .int x3), (4, .int x4)] := hl
  have hnR := hB.nR
  have hnC := hB.nC
  have hnW := hB.nW
  have hnA := hB.nA
  have hmn := hB.min
  refine lv_iload_n hx hb dX5_addCheck_0 rfl (lv_at hl 1 rfl) ?_
  refine lv_iconst (v := 1) hx hb dX5_addCheck_1 (by decide) ?_
  refine lv_bipush (v := 60) hx hb dX5_addCheck_2 (by decide) ?_
  refine kgo_pi (v := 1) (kc_S (As := [.int x1, .int 1, .int 60]) (rest := []) S hE hS hAb (cm_isInT ε l a1 b1) (va_cwS 3 hts gX5_addCheck_X5_isIn rfl rfl rfl (by decide +kernel) ⟨Nat.le_of_ble_eq_true rfl, Nat.le_of_ble_eq_true rfl⟩) rfl hl.1 rfl (Nat.le_of_ble_eq_true rfl) dX5_addCheck_4 ⟨Nat.zero_le _, Nat.zero_le _⟩) hS (fun locs hS => ?_)
  refine lv_if_eq (tgt := 45) hx hb dX5_addCheck_7 (by decide) (fun hc => absurd hc (by decide)) (fun _ => ?_)
  refine lv_iload_n hx hb dX5_addCheck_10 rfl (lv_at hl 2 rfl) ?_
  refine lv_iconst (v := 0) hx hb dX5_addCheck_11 (by decide) ?_
  refine lv_sipush (v := 1000) hx hb dX5_addCheck_12 (by decide) ?_
  refine kgo_pi (v := 0) (kc_S (As := [.int x2, .int 0, .int 1000]) (rest := []) S hE hS hAb (cm_isInF ε l h) (va_cwS 3 hts gX5_addCheck_X5_isIn rfl rfl rfl (by decide +kernel) ⟨Nat.le_of_ble_eq_true rfl, Nat.le_of_ble_eq_true rfl⟩) rfl hl.1 rfl (Nat.le_of_ble_eq_true rfl) dX5_addCheck_15 ⟨Nat.zero_le _, Nat.zero_le _⟩) hS (fun locs hS => ?_)
  refine lv_if_eq (tgt := 45) hx hb dX5_addCheck_18 (by decide) (fun _ => ?_) (fun hc => absurd (by decide) hc)
  refine lv_iconst (v := 0) hx hb dX5_addCheck_45 (by decide) ?_
  refine lv_istore (lv' := [(5, .int 0), (0, .ref (bd 0)), (1, .int x1), (2, .int x2), (3, .int x3), (4, .int x4)]) hx hb dX5_addCheck_46 hl (by decide) rfl (fun ls hl => ?_)
  refine lv_aload_n hx hb dX5_addCheck_48 rfl (lv_at hl 1 rfl) ?_
  refine lv_iload hx hb dX5_addCheck_49 (lv_at hl 0 rfl) ?_
  refine lv_if_ne (tgt := 58) hx hb dX5_addCheck_51 (by decide) (fun hc => absurd (by decide) hc) (fun _ => ?_)
  refine lv_iconst (v := 1) hx hb dX5_addCheck_54 (by decide) ?_
  refine lv_goto (tgt := 72) hx hb dX5_addCheck_55 (by decide) ?_
  refine kr_top (y := nI 1) (rfl) ?_
  refine kr_put (T := TX5) (N := 28) (v := .int (nI 1)) (ty := .int) hx hb hts hown hK hS (hm.lv 0 (by decide)) (hm.1 0 (by decide)).2 rfl kin_X5_addCheck_X5 tyX5 tyX5_ok nmX5 27 (by decide) "ProbewebModel" (hts (.fieldLink RX5 78 "ProbewebModel" "thrown" "I") (by decide +kernel)) (fun _ h => h) rfl (by decide +kernel) rfl rfl (Nat.le_of_ble_eq_true rfl) dX5_addCheck_72 (fun H1 locs hU ho hS => ?_)
  have hm := km_p35 (v := 1) hm hU ho
  clear hU ho
  have hB : mB (mT τ 1) := hB
  refine lv_aload_n hx hb dX5_addCheck_75 rfl (lv_at hl 1 rfl) ?_
  refine kr_get (T := TX5) (N := 28) hx hb hts hown hK (hm.lv 0 (by decide)) rfl kin_X5_addCheck_X5 27 (by decide) (by decide +kernel) rfl dX5_addCheck_76 ?_
  refine kr_top (y := 1) (rfl) ?_
  refine lv_if_le (tgt := 84) hx hb dX5_addCheck_79 (by decide) (fun hc => absurd hc (by decide)) (fun _ => ?_)
  refine lv_iconst (v := 0) hx hb dX5_addCheck_82 (by decide) ?_
  refine kend_i S hr hlocks hS ⟨rfl, hm⟩ dX5_addCheck_83
set_option maxHeartbeats 4000000 in
set_option maxRecDepth 100000 in
theorem cm_addCheckX3 (ε : kEnv) (l : Launch) {A : Nat → Prop} {bd : Nat → Nat} {τ : kS} {H : Heap} {x1 x2 x3 x4 : Int32} (hAb : ∀ q, A q → kHi ε q) (hm : kM ε A bd τ H) (hB : mB τ) (a1 : ¬ x1 < 1) (b1 : x1 ≤ 60) (a2 : ¬ x2 < 0) (b2 : x2 ≤ 1000) (h : x3 < 0 ∨ ¬ x3 ≤ 3) : kMi ε l yX5_addCheck wsX5_addCheck ({ frames := 6, cells := 0, slots := 0, locals := 140 }) [.ref (bd 0), .int x1, .int x2, .int x3, .int x4] H A (0) (0) (fun v9 H' => v9 = 0 ∧ kM ε A bd (mT τ 1) H') := by
  refine kof (cc := cX5_addCheck) (maxL := 6) (ret := (some .int)) (by decide) rfl (Nat.le_of_ble_eq_true rfl) ?_
  intro p e s m below meth c ls S hr hlocks hin hH hE hl
  have S : CallFix p m c cX5_addCheck 6 s _ wsX5_addCheck RX5 := S
  have hx := S.1
  have hb := S.2.1
  have hown : s.vm.findClass RX5 = some m.cls := S.2.2.2.1
  have hts := S.2.2.2.2
  have hK := hE.1
  have hS : va_S A s.heap H [] := by rw [hH]; exact va_S.rf
  have hl : lv_has ls 6 [(0, .ref (bd 0)), (1, .int x1), (2, .int x2), (3, .int x3), (4, .int x4)] := hl
  have hnR := hB.nR
  have hnC := hB.nC
  have hnW := hB.nW
  have hnA := hB.nA
  have hmn := hB.min
  refine lv_iload_n hx hb dX5_addCheck_0 rfl (lv_at hl 1 rfl) ?_
  refine lv_iconst (v := 1) hx hb dX5_addCheck_1 (by decide) ?_
  refine lv_bipush (v := 60) hx hb dX5_addCheck_2 (by decide) ?_
  refine kgo_pi (v := 1) (kc_S (As := [.int x1, .int 1, .int 60]) (rest := []) S hE hS hAb (cm_isInT ε l a1 b1) (va_cwS 3 hts gX5_addCheck_X5_isIn rfl rfl rfl (by decide +kernel) ⟨Nat.le_of_ble_eq_true rfl, Nat.le_of_ble_eq_true rfl⟩) rfl hl.1 rfl (Nat.le_of_ble_eq_true rfl) dX5_addCheck_4 ⟨Nat.zero_le _, Nat.zero_le _⟩) hS (fun locs hS => ?_)
  refine lv_if_eq (tgt := 45) hx hb dX5_addCheck_7 (by decide) (fun hc => absurd hc (by decide)) (fun _ => ?_)
  refine lv_iload_n hx hb dX5_addCheck_10 rfl (lv_at hl 2 rfl) ?_
  refine lv_iconst (v := 0) hx hb dX5_addCheck_11 (by decide) ?_
  refine lv_sipush (v := 1000) hx hb dX5_addCheck_12 (by decide) ?_
  refine kgo_pi (v := 1) (kc_S (As := [.int x2, .int 0, .int 1000]) (rest := []) S hE hS hAb (cm_isInT ε l a2 b2) (va_cwS 3 hts gX5_addCheck_X5_isIn rfl rfl rfl (by decide +kernel) ⟨Nat.le_of_ble_eq_true rfl, Nat.le_of_ble_eq_true rfl⟩) rfl hl.1 rfl (Nat.le_of_ble_eq_true rfl) dX5_addCheck_15 ⟨Nat.zero_le _, Nat.zero_le _⟩) hS (fun locs hS => ?_)
  refine lv_if_eq (tgt := 45) hx hb dX5_addCheck_18 (by decide) (fun hc => absurd hc (by decide)) (fun _ => ?_)
  refine lv_iload_n hx hb dX5_addCheck_21 rfl (lv_at hl 3 rfl) ?_
  refine lv_iconst (v := 0) hx hb dX5_addCheck_22 (by decide) ?_
  refine lv_iconst (v := 3) hx hb dX5_addCheck_23 (by decide) ?_
  refine kgo_pi (v := 0) (kc_S (As := [.int x3, .int 0, .int 3]) (rest := []) S hE hS hAb (cm_isInF ε l h) (va_cwS 3 hts gX5_addCheck_X5_isIn rfl rfl rfl (by decide +kernel) ⟨Nat.le_of_ble_eq_true rfl, Nat.le_of_ble_eq_true rfl⟩) rfl hl.1 rfl (Nat.le_of_ble_eq_true rfl) dX5_addCheck_24 ⟨Nat.zero_le _, Nat.zero_le _⟩) hS (fun locs hS => ?_)
  refine lv_if_eq (tgt := 45) hx hb dX5_addCheck_27 (by decide) (fun _ => ?_) (fun hc => absurd (by decide) hc)
  refine lv_iconst (v := 0) hx hb dX5_addCheck_45 (by decide) ?_
  refine lv_istore (lv' := [(5, .int 0), (0, .ref (bd 0)), (1, .int x1), (2, .int x2), (3, .int x3), (4, .int x4)]) hx hb dX5_addCheck_46 hl (by decide) rfl (fun ls hl => ?_)
  refine lv_aload_n hx hb dX5_addCheck_48 rfl (lv_at hl 1 rfl) ?_
  refine lv_iload hx hb dX5_addCheck_49 (lv_at hl 0 rfl) ?_
  refine lv_if_ne (tgt := 58) hx hb dX5_addCheck_51 (by decide) (fun hc => absurd (by decide) hc) (fun _ => ?_)
  refine lv_iconst (v := 1) hx hb dX5_addCheck_54 (by decide) ?_
  refine lv_goto (tgt := 72) hx hb dX5_addCheck_55 (by decide) ?_
  refine kr_top (y := nI 1) (rfl) ?_
  refine kr_put (T := TX5) (N := 28) (v := .int (nI 1)) (ty := .int) hx hb hts hown hK hS (hm.lv 0 (by decide)) (hm.1 0 (by decide)).2 rfl kin_X5_addCheck_X5 tyX5 tyX5_ok nmX5 27 (by decide) "ProbewebModel" (hts (.fieldLink RX5 78 "ProbewebModel" "thrown" "I") (by decide +kernel)) (fun _ h => h) rfl (by decide +kernel) rfl rfl (Nat.le_of_ble_eq_true rfl) dX5_addCheck_72 (fun H1 locs hU ho hS => ?_)
  have hm := km_p35 (v := 1) hm hU ho
  clear hU ho
  have hB : mB (mT τ 1) := hB
  refine lv_aload_n hx hb dX5_addCheck_75 rfl (lv_at hl 1 rfl) ?_
  refine kr_get (T := TX5) (N := 28) hx hb hts hown hK (hm.lv 0 (by decide)) rfl kin_X5_addCheck_X5 27 (by decide) (by decide +kernel) rfl dX5_addCheck_76 ?_
  refine kr_top (y := 1) (rfl) ?_
  refine lv_if_le (tgt := 84) hx hb dX5_addCheck_79 (by decide) (fun hc => absurd hc (by decide)) (fun _ => ?_)
  refine lv_iconst (v := 0) hx hb dX5_addCheck_82 (by decide) ?_
  refine kend_i S hr hlocks hS ⟨rfl, hm⟩ dX5_addCheck_83
set_option maxHeartbeats 4000000 in
set_option maxRecDepth 100000 in
theorem cm_addCheckX4 (ε : kEnv) (l : Launch) {A : Nat → Prop} {bd : Nat → Nat} {τ : kS} {H : Heap} {x1 x2 x3 x4 : Int32} (hAb : ∀ q, A q → kHi ε q) (hm : kM ε A bd τ H) (hB : mB τ) (a1 : ¬ x1 < 1) (b1 : x1 ≤ 60) (a2 : ¬ x2 < 0) (b2 : x2 ≤ 1000) (a3 : ¬ x3 < 0) (b3 : x3 ≤ 3) (h : x4 < 1 ∨ ¬ x4 ≤ 6) : kMi ε l yX5_addCheck wsX5_addCheck ({ frames := 6, cells := 0, slots := 0, locals := 140 }) [.ref (bd 0), .int x1, .int x2, .int x3, .int x4] H A (0) (0) (fun v9 H' => v9 = 0 ∧ kM ε A bd (mT τ 1) H') := by
  refine kof (cc := cX5_addCheck) (maxL := 6) (ret := (some .int)) (by decide) rfl (Nat.le_of_ble_eq_true rfl) ?_
  intro p e s m below meth c ls S hr hlocks hin hH hE hl
  have S : CallFix p m c cX5_addCheck 6 s _ wsX5_addCheck RX5 := S
  have hx := S.1
  have hb := S.2.1
  have hown : s.vm.findClass RX5 = some m.cls := S.2.2.2.1
  have hts := S.2.2.2.2
  have hK := hE.1
  have hS : va_S A s.heap H [] := by rw [hH]; exact va_S.rf
  have hl : lv_has ls 6 [(0, .ref (bd 0)), (1, .int x1), (2, .int x2), (3, .int x3), (4, .int x4)] := hl
  have hnR := hB.nR
  have hnC := hB.nC
  have hnW := hB.nW
  have hnA := hB.nA
  have hmn := hB.min
  refine lv_iload_n hx hb dX5_addCheck_0 rfl (lv_at hl 1 rfl) ?_
  refine lv_iconst (v := 1) hx hb dX5_addCheck_1 (by decide) ?_
  refine lv_bipush (v := 60) hx hb dX5_addCheck_2 (by decide) ?_
  refine kgo_pi (v := 1) (kc_S (As := [.int x1, .int 1, .int 60]) (rest := []) S hE hS hAb (cm_isInT ε l a1 b1) (va_cwS 3 hts gX5_addCheck_X5_isIn rfl rfl rfl (by decide +kernel) ⟨Nat.le_of_ble_eq_true rfl, Nat.le_of_ble_eq_true rfl⟩) rfl hl.1 rfl (Nat.le_of_ble_eq_true rfl) dX5_addCheck_4 ⟨Nat.zero_le _, Nat.zero_le _⟩) hS (fun locs hS => ?_)
  refine lv_if_eq (tgt := 45) hx hb dX5_addCheck_7 (by decide) (fun hc => absurd hc (by decide)) (fun _ => ?_)
  refine lv_iload_n hx hb dX5_addCheck_10 rfl (lv_at hl 2 rfl) ?_
  refine lv_iconst (v := 0) hx hb dX5_addCheck_11 (by decide) ?_
  refine lv_sipush (v := 1000) hx hb dX5_addCheck_12 (by decide) ?_
  refine kgo_pi (v := 1) (kc_S (As := [.int x2, .int 0, .int 1000]) (rest := []) S hE hS hAb (cm_isInT ε l a2 b2) (va_cwS 3 hts gX5_addCheck_X5_isIn rfl rfl rfl (by decide +kernel) ⟨Nat.le_of_ble_eq_true rfl, Nat.le_of_ble_eq_true rfl⟩) rfl hl.1 rfl (Nat.le_of_ble_eq_true rfl) dX5_addCheck_15 ⟨Nat.zero_le _, Nat.zero_le _⟩) hS (fun locs hS => ?_)
  refine lv_if_eq (tgt := 45) hx hb dX5_addCheck_18 (by decide) (fun hc => absurd hc (by decide)) (fun _ => ?_)
  refine lv_iload_n hx hb dX5_addCheck_21 rfl (lv_at hl 3 rfl) ?_
  refine lv_iconst (v := 0) hx hb dX5_addCheck_22 (by decide) ?_
  refine lv_iconst (v := 3) hx hb dX5_addCheck_23 (by decide) ?_
  refine kgo_pi (v := 1) (kc_S (As := [.int x3, .int 0, .int 3]) (rest := []) S hE hS hAb (cm_isInT ε l a3 b3) (va_cwS 3 hts gX5_addCheck_X5_isIn rfl rfl rfl (by decide +kernel) ⟨Nat.le_of_ble_eq_true rfl, Nat.le_of_ble_eq_true rfl⟩) rfl hl.1 rfl (Nat.le_of_ble_eq_true rfl) dX5_addCheck_24 ⟨Nat.zero_le _, Nat.zero_le _⟩) hS (fun locs hS => ?_)
  refine lv_if_eq (tgt := 45) hx hb dX5_addCheck_27 (by decide) (fun hc => absurd hc (by decide)) (fun _ => ?_)
  refine lv_iload hx hb dX5_addCheck_30 (lv_at hl 4 rfl) ?_
  refine lv_iconst (v := 1) hx hb dX5_addCheck_32 (by decide) ?_
  refine lv_bipush (v := 6) hx hb dX5_addCheck_33 (by decide) ?_
  refine kgo_pi (v := 0) (kc_S (As := [.int x4, .int 1, .int 6]) (rest := []) S hE hS hAb (cm_isInF ε l h) (va_cwS 3 hts gX5_addCheck_X5_isIn rfl rfl rfl (by decide +kernel) ⟨Nat.le_of_ble_eq_true rfl, Nat.le_of_ble_eq_true rfl⟩) rfl hl.1 rfl (Nat.le_of_ble_eq_true rfl) dX5_addCheck_35 ⟨Nat.zero_le _, Nat.zero_le _⟩) hS (fun locs hS => ?_)
  refine lv_if_eq (tgt := 45) hx hb dX5_addCheck_38 (by decide) (fun _ => ?_) (fun hc => absurd (by decide) hc)
  refine lv_iconst (v := 0) hx hb dX5_addCheck_45 (by decide) ?_
  refine lv_istore (lv' := [(5, .int 0), (0, .ref (bd 0)), (1, .int x1), (2, .int x2), (3, .int x3), (4, .int x4)]) hx hb dX5_addCheck_46 hl (by decide) rfl (fun ls hl => ?_)
  refine lv_aload_n hx hb dX5_addCheck_48 rfl (lv_at hl 1 rfl) ?_
  refine lv_iload hx hb dX5_addCheck_49 (lv_at hl 0 rfl) ?_
  refine lv_if_ne (tgt := 58) hx hb dX5_addCheck_51 (by decide) (fun hc => absurd (by decide) hc) (fun _ => ?_)
  refine lv_iconst (v := 1) hx hb dX5_addCheck_54 (by decide) ?_
  refine lv_goto (tgt := 72) hx hb dX5_addCheck_55 (by decide) ?_
  refine kr_top (y := nI 1) (rfl) ?_
  refine kr_put (T := TX5) (N := 28) (v := .int (nI 1)) (ty := .int) hx hb hts hown hK hS (hm.lv 0 (by decide)) (hm.1 0 (by decide)).2 rfl kin_X5_addCheck_X5 tyX5 tyX5_ok nmX5 27 (by decide) "ProbewebModel" (hts (.fieldLink RX5 78 "ProbewebModel" "thrown" "I") (by decide +kernel)) (fun _ h => h) rfl (by decide +kernel) rfl rfl (Nat.le_of_ble_eq_true rfl) dX5_addCheck_72 (fun H1 locs hU ho hS => ?_)
  have hm := km_p35 (v := 1) hm hU ho
  clear hU ho
  have hB : mB (mT τ 1) := hB
  refine lv_aload_n hx hb dX5_addCheck_75 rfl (lv_at hl 1 rfl) ?_
  refine kr_get (T := TX5) (N := 28) hx hb hts hown hK (hm.lv 0 (by decide)) rfl kin_X5_addCheck_X5 27 (by decide) (by decide +kernel) rfl dX5_addCheck_76 ?_
  refine kr_top (y := 1) (rfl) ?_
  refine lv_if_le (tgt := 84) hx hb dX5_addCheck_79 (by decide) (fun hc => absurd hc (by decide)) (fun _ => ?_)
  refine lv_iconst (v := 0) hx hb dX5_addCheck_82 (by decide) ?_
  refine kend_i S hr hlocks hS ⟨rfl, hm⟩ dX5_addCheck_83
set_option maxHeartbeats 4000000 in
set_option maxRecDepth 100000 in
theorem cm_addCheckX5 (ε : kEnv) (l : Launch) {A : Nat → Prop} {bd : Nat → Nat} {τ : kS} {H : Heap} {x1 x2 x3 x4 : Int32} (hAb : ∀ q, A q → kHi ε q) (hm : kM ε A bd τ H) (hB : mB τ) (a1 : ¬ x1 < 1) (b1 : x1 ≤ 60) (a2 : ¬ x2 < 0) (b2 : x2 ≤ 1000) (a3 : ¬ x3 < 0) (b3 : x3 ≤ 3) (a4 : ¬ x4 < 1) (b4 : x4 ≤ 6) (h8 : τ 32 0 = 8) : kMi ε l yX5_addCheck wsX5_addCheck ({ frames := 6, cells := 0, slots := 0, locals := 140 }) [.ref (bd 0), .int x1, .int x2, .int x3, .int x4] H A (0) (0) (fun v9 H' => v9 = 0 ∧ kM ε A bd (mT τ 2) H') := by
  refine kof (cc := cX5_addCheck) (maxL := 6) (ret := (some .int)) (by decide) rfl (Nat.le_of_ble_eq_true rfl) ?_
  intro p e s m below meth c ls S hr hlocks hin hH hE hl
  have S : CallFix p m c cX5_addCheck 6 s _ wsX5_addCheck RX5 := S
  have hx := S.1
  have hb := S.2.1
  have hown : s.vm.findClass RX5 = some m.cls := S.2.2.2.1
  have hts := S.2.2.2.2
  have hK := hE.1
  have hS : va_S A s.heap H [] := by rw [hH]; exact va_S.rf
  have hl : lv_has ls 6 [(0, .ref (bd 0)), (1, .int x1), (2, .int x2), (3, .int x3), (4, .int x4)] := hl
  have hnR := hB.nR
  have hnC := hB.nC
  have hnW := hB.nW
  have hnA := hB.nA
  have hmn := hB.min
  refine lv_iload_n hx hb dX5_addCheck_0 rfl (lv_at hl 1 rfl) ?_
  refine lv_iconst (v := 1) hx hb dX5_addCheck_1 (by decide) ?_
  refine lv_bipush (v := 60) hx hb dX5_addCheck_2 (by decide) ?_
  refine kgo_pi (v := 1) (kc_S (As := [.int x1, .int 1, .int 60]) (rest := []) S hE hS hAb (cm_isInT ε l a1 b1) (va_cwS 3 hts gX5_addCheck_X5_isIn rfl rfl rfl (by decide +kernel) ⟨Nat.le_of_ble_eq_true rfl, Nat.le_of_ble_eq_true rfl⟩) rfl hl.1 rfl (Nat.le_of_ble_eq_true rfl) dX5_addCheck_4 ⟨Nat.zero_le _, Nat.zero_le _⟩) hS (fun locs hS => ?_)
  refine lv_if_eq (tgt := 45) hx hb dX5_addCheck_7 (by decide) (fun hc => absurd hc (by decide)) (fun _ => ?_)
  refine lv_iload_n hx hb dX5_addCheck_10 rfl (lv_at hl 2 rfl) ?_
  refine lv_iconst (v := 0) hx hb dX5_addCheck_11 (by decide) ?_
  refine lv_sipush (v := 1000) hx hb dX5_addCheck_12 (by decide) ?_
  refine kgo_pi (v := 1) (kc_S (As := [.int x2, .int 0, .int 1000]) (rest := []) S hE hS hAb (cm_isInT ε l a2 b2) (va_cwS 3 hts gX5_addCheck_X5_isIn rfl rfl rfl (by decide +kernel) ⟨Nat.le_of_ble_eq_true rfl, Nat.le_of_ble_eq_true rfl⟩) rfl hl.1 rfl (Nat.le_of_ble_eq_true rfl) dX5_addCheck_15 ⟨Nat.zero_le _, Nat.zero_le _⟩) hS (fun locs hS => ?_)
  refine lv_if_eq (tgt := 45) hx hb dX5_addCheck_18 (by decide) (fun hc => absurd hc (by decide)) (fun _ => ?_)
  refine lv_iload_n hx hb dX5_addCheck_21 rfl (lv_at hl 3 rfl) ?_
  refine lv_iconst (v := 0) hx hb dX5_addCheck_22 (by decide) ?_
  refine lv_iconst (v := 3) hx hb dX5_addCheck_23 (by decide) ?_
  refine kgo_pi (v := 1) (kc_S (As := [.int x3, .int 0, .int 3]) (rest := []) S hE hS hAb (cm_isInT ε l a3 b3) (va_cwS 3 hts gX5_addCheck_X5_isIn rfl rfl rfl (by decide +kernel) ⟨Nat.le_of_ble_eq_true rfl, Nat.le_of_ble_eq_true rfl⟩) rfl hl.1 rfl (Nat.le_of_ble_eq_true rfl) dX5_addCheck_24 ⟨Nat.zero_le _, Nat.zero_le _⟩) hS (fun locs hS => ?_)
  refine lv_if_eq (tgt := 45) hx hb dX5_addCheck_27 (by decide) (fun hc => absurd hc (by decide)) (fun _ => ?_)
  refine lv_iload hx hb dX5_addCheck_30 (lv_at hl 4 rfl) ?_
  refine lv_iconst (v := 1) hx hb dX5_addCheck_32 (by decide) ?_
  refine lv_bipush (v := 6) hx hb dX5_addCheck_33 (by decide) ?_
  refine kgo_pi (v := 1) (kc_S (As := [.int x4, .int 1, .int 6]) (rest := []) S hE hS hAb (cm_isInT ε l a4 b4) (va_cwS 3 hts gX5_addCheck_X5_isIn rfl rfl rfl (by decide +kernel) ⟨Nat.le_of_ble_eq_true rfl, Nat.le_of_ble_eq_true rfl⟩) rfl hl.1 rfl (Nat.le_of_ble_eq_true rfl) dX5_addCheck_35 ⟨Nat.zero_le _, Nat.zero_le _⟩) hS (fun locs hS => ?_)
  refine lv_if_eq (tgt := 45) hx hb dX5_addCheck_38 (by decide) (fun hc => absurd hc (by decide)) (fun _ => ?_)
  refine lv_iconst (v := 1) hx hb dX5_addCheck_41 (by decide) ?_
  refine lv_goto (tgt := 46) hx hb dX5_addCheck_42 (by decide) ?_
  refine lv_istore (lv' := [(5, .int 1), (0, .ref (bd 0)), (1, .int x1), (2, .int x2), (3, .int x3), (4, .int x4)]) hx hb dX5_addCheck_46 hl (by decide) rfl (fun ls hl => ?_)
  refine lv_aload_n hx hb dX5_addCheck_48 rfl (lv_at hl 1 rfl) ?_
  refine lv_iload hx hb dX5_addCheck_49 (lv_at hl 0 rfl) ?_
  refine lv_if_ne (tgt := 58) hx hb dX5_addCheck_51 (by decide) (fun _ => ?_) (fun hc => absurd hc (by decide))
  refine lv_aload_n hx hb dX5_addCheck_58 rfl (lv_at hl 1 rfl) ?_
  refine kr_get (T := TX5) (N := 28) hx hb hts hown hK (hm.lv 0 (by decide)) rfl kin_X5_addCheck_X5 7 (by decide) (by decide +kernel) rfl dX5_addCheck_59 ?_
  refine lv_bipush (v := 8) hx hb dX5_addCheck_62 (by decide) ?_
  refine lv_icmp_ne (tgt := 71) hx hb dX5_addCheck_64 (by decide) (fun hc => absurd (by rw [h8]; rfl) hc) (fun _ => ?_)
  refine lv_iconst (v := 2) hx hb dX5_addCheck_67 (by decide) ?_
  refine lv_goto (tgt := 72) hx hb dX5_addCheck_68 (by decide) ?_
  refine kr_top (y := nI 2) (rfl) ?_
  refine kr_put (T := TX5) (N := 28) (v := .int (nI 2)) (ty := .int) hx hb hts hown hK hS (hm.lv 0 (by decide)) (hm.1 0 (by decide)).2 rfl kin_X5_addCheck_X5 tyX5 tyX5_ok nmX5 27 (by decide) "ProbewebModel" (hts (.fieldLink RX5 78 "ProbewebModel" "thrown" "I") (by decide +kernel)) (fun _ h => h) rfl (by decide +kernel) rfl rfl (Nat.le_of_ble_eq_true rfl) dX5_addCheck_72 (fun H1 locs hU ho hS => ?_)
  have hm := km_p35 (v := 2) hm hU ho
  clear hU ho
  have hB : mB (mT τ 2) := hB
  refine lv_aload_n hx hb dX5_addCheck_75 rfl (lv_at hl 1 rfl) ?_
  refine kr_get (T := TX5) (N := 28) hx hb hts hown hK (hm.lv 0 (by decide)) rfl kin_X5_addCheck_X5 27 (by decide) (by decide +kernel) rfl dX5_addCheck_76 ?_
  refine kr_top (y := 2) (rfl) ?_
  refine lv_if_le (tgt := 84) hx hb dX5_addCheck_79 (by decide) (fun hc => absurd hc (by decide)) (fun _ => ?_)
  refine lv_iconst (v := 0) hx hb dX5_addCheck_82 (by decide) ?_
  refine kend_i S hr hlocks hS ⟨rfl, hm⟩ dX5_addCheck_83
theorem kin_X5_addWindow_X5 : ∀ w ∈ wsX50, w ∈ wsX5_addWindow := by decide +kernel
set_option maxHeartbeats 4000000 in
set_option maxRecDepth 100000 in
theorem cm_addWindow (ε : kEnv) (l : Launch) {A : Nat → Prop} {bd : Nat → Nat} {τ : kS} {H : Heap} {i t1 t2 : Nat} (hAb : ∀ q, A q → kHi ε q) (hm : kM ε A bd τ H) (hB : mB τ) (hi : i < τ 32 0) (h1b : t1 ≤ 100000) (h2a : 1 ≤ t2) (h2b : t2 ≤ 10000) (hn12 : τ 33 0 < 12) : kMi ε l yX5_addWindow wsX5_addWindow ({ frames := 6, cells := 0, slots := 0, locals := 140 }) [.ref (bd 0), .int (nI i), .int (nI t1), .int (nI t2)] H A (0) (0) (fun v9 H' => v9 = nI (τ 33 0) ∧ kM ε A bd (ku (ku (ku (ku (ku τ 35 0 0) 18 (τ 33 0) i) 19 (τ 33 0) t1) 20 (τ 33 0) (t1 + t2)) 33 0 (τ 33 0 + 1)) H') := by
  refine kof (cc := cX5_addWindow) (maxL := 4) (ret := (some .int)) (by decide) rfl (Nat.le_of_ble_eq_true rfl) ?_
  intro p e s m below meth c ls S hr hlocks hin hH hE hl
  have S : CallFix p m c cX5_addWindow 4 s _ wsX5_addWindow RX5 := S
  have hx := S.1
  have hb := S.2.1
  have hown : s.vm.findClass RX5 = some m.cls := S.2.2.2.1
  have hts := S.2.2.2.2
  have hK := hE.1
  have hS : va_S A s.heap H [] := by rw [hH]; exact va_S.rf
  have hl : lv_has ls 4 [(0, .ref (bd 0)), (1, .int (nI i)), (2, .int (nI t1)), (3, .int (nI t2))] := hl
  have hnR := hB.nR
  have hnC := hB.nC
  have hnW := hB.nW
  have hnA := hB.nA
  have hmn := hB.min
  refine lv_aload_n hx hb dX5_addWindow_0 rfl (lv_at hl 0 rfl) ?_
  refine lv_aload_n hx hb dX5_addWindow_1 rfl (lv_at hl 0 rfl) ?_
  refine lv_iload_n hx hb dX5_addWindow_2 rfl (lv_at hl 1 rfl) ?_
  refine kgo_pi (v := 1) (kc_V (As := [.int (nI i)]) (rest := [.ref (bd 0)]) S hE hS hAb (cm_isCheckT ε l hm hB hi) (cwV 1 hts gX5_addWindow_X5_isCheck rfl rfl rfl (by decide +kernel) ⟨Nat.le_of_ble_eq_true rfl, Nat.le_of_ble_eq_true rfl⟩) (hm.lv 0 (by decide)) rfl rfl hl.1 rfl (Nat.le_of_ble_eq_true rfl) dX5_addWindow_3 ⟨Nat.zero_le _, Nat.zero_le _⟩) hS (fun locs hS => ?_)
  refine lv_if_ne (tgt := 13) hx hb dX5_addWindow_6 (by decide) (fun _ => ?_) (fun hc => absurd hc (by decide))
  refine lv_iload_n hx hb dX5_addWindow_13 rfl (lv_at hl 2 rfl) ?_
  refine lv_iconst (v := 0) hx hb dX5_addWindow_14 (by decide) ?_
  refine lv_ldc (own := RX5) (v := 100000) hx hb hown (hts (.constant RX5 99 (100000)) (by decide +kernel)) dX5_addWindow_15 ?_
  refine kgo_pi (v := 1) (kc_S (As := [.int (nI t1), .int 0, .int 100000]) (rest := [.ref (bd 0)]) S hE hS hAb (cm_isInT ε l (nI_nlt (a := t1) (b := 0) (Nat.zero_le _) (by omega)) ((nI_leI (a := t1) (b := 100000) (by omega) (by decide)).mpr h1b)) (va_cwS 3 hts gX5_addWindow_X5_isIn rfl rfl rfl (by decide +kernel) ⟨Nat.le_of_ble_eq_true rfl, Nat.le_of_ble_eq_true rfl⟩) rfl hl.1 rfl (Nat.le_of_ble_eq_true rfl) dX5_addWindow_17 ⟨Nat.zero_le _, Nat.zero_le _⟩) hS (fun locs hS => ?_)
  refine lv_if_eq (tgt := 34) hx hb dX5_addWindow_20 (by decide) (fun hc => absurd hc (by decide)) (fun _ => ?_)
  refine lv_iload_n hx hb dX5_addWindow_23 rfl (lv_at hl 3 rfl) ?_
  refine lv_iconst (v := 1) hx hb dX5_addWindow_24 (by decide) ?_
  refine lv_sipush (v := 10000) hx hb dX5_addWindow_25 (by decide) ?_
  refine kgo_pi (v := 1) (kc_S (As := [.int (nI t2), .int 1, .int 10000]) (rest := [.ref (bd 0)]) S hE hS hAb (cm_isInT ε l (nI_nlt (a := t2) (b := 1) h2a (by omega)) ((nI_leI (a := t2) (b := 10000) (by omega) (by decide)).mpr h2b)) (va_cwS 3 hts gX5_addWindow_X5_isIn rfl rfl rfl (by decide +kernel) ⟨Nat.le_of_ble_eq_true rfl, Nat.le_of_ble_eq_true rfl⟩) rfl hl.1 rfl (Nat.le_of_ble_eq_true rfl) dX5_addWindow_28 ⟨Nat.zero_le _, Nat.zero_le _⟩) hS (fun locs hS => ?_)
  refine lv_if_ne (tgt := 38) hx hb dX5_addWindow_31 (by decide) (fun _ => ?_) (fun hc => absurd hc (by decide))
  refine lv_iconst (v := 0) hx hb dX5_addWindow_38 (by decide) ?_
  refine kr_top (y := nI 0) (rfl) ?_
  refine kr_put (T := TX5) (N := 28) (v := .int (nI 0)) (ty := .int) hx hb hts hown hK hS (hm.lv 0 (by decide)) (hm.1 0 (by decide)).2 rfl kin_X5_addWindow_X5 tyX5 tyX5_ok nmX5 27 (by decide) "ProbewebModel" (hts (.fieldLink RX5 78 "ProbewebModel" "thrown" "I") (by decide +kernel)) (fun _ h => h) rfl (by decide +kernel) rfl rfl (Nat.le_of_ble_eq_true rfl) dX5_addWindow_39 (fun H1 locs hU ho hS => ?_)
  have hm := km_p35 (v := 0) hm hU ho
  clear hU ho
  have hB : mB (mT τ 0) := hB
  refine lv_aload_n hx hb dX5_addWindow_42 rfl (lv_at hl 0 rfl) ?_
  refine kr_get (T := TX5) (N := 28) hx hb hts hown hK (hm.lv 0 (by decide)) rfl kin_X5_addWindow_X5 27 (by decide) (by decide +kernel) rfl dX5_addWindow_43 ?_
  refine kr_top (y := 0) (rfl) ?_
  refine lv_if_le (tgt := 51) hx hb dX5_addWindow_46 (by decide) (fun _ => ?_) (fun hc => absurd (by decide) hc)
  refine lv_aload_n hx hb dX5_addWindow_51 rfl (lv_at hl 0 rfl) ?_
  refine lv_aload_n hx hb dX5_addWindow_52 rfl (lv_at hl 0 rfl) ?_
  refine kr_get (T := TX5) (N := 28) hx hb hts hown hK (hm.lv 0 (by decide)) rfl kin_X5_addWindow_X5 20 (by decide) (by decide +kernel) rfl dX5_addWindow_53 ?_
  refine lv_bipush (v := 12) hx hb dX5_addWindow_56 (by decide) ?_
  refine lv_icmp_ne (tgt := 65) hx hb dX5_addWindow_58 (by decide) (fun _ => ?_) (fun hc => absurd ((nI_eq (a := τ 33 0) (b := 12) (by omega) (by decide)).mp hc) (by omega))
  refine lv_iconst (v := 0) hx hb dX5_addWindow_65 (by decide) ?_
  refine kr_top (y := nI 0) (rfl) ?_
  refine kr_put (T := TX5) (N := 28) (v := .int (nI 0)) (ty := .int) hx hb hts hown hK hS (hm.lv 0 (by decide)) (hm.1 0 (by decide)).2 rfl kin_X5_addWindow_X5 tyX5 tyX5_ok nmX5 27 (by decide) "ProbewebModel" (hts (.fieldLink RX5 78 "ProbewebModel" "thrown" "I") (by decide +kernel)) (fun _ h => h) rfl (by decide +kernel) rfl rfl (Nat.le_of_ble_eq_true rfl) dX5_addWindow_66 (fun H1 locs hU ho hS => ?_)
  have hm := km_p35 (v := 0) hm hU ho
  clear hU ho
  have et : ku (mT τ 0) 35 0 0 = mT τ 0 := by funext g j; simp only [ku]; split <;> rfl
  rw [et] at hm
  refine lv_aload_n hx hb dX5_addWindow_69 rfl (lv_at hl 0 rfl) ?_
  refine kr_get (T := TX5) (N := 28) hx hb hts hown hK (hm.lv 0 (by decide)) rfl kin_X5_addWindow_X5 27 (by decide) (by decide +kernel) rfl dX5_addWindow_70 ?_
  refine kr_top (y := 0) (rfl) ?_
  refine lv_if_le (tgt := 78) hx hb dX5_addWindow_73 (by decide) (fun _ => ?_) (fun hc => absurd (by decide) hc)
  refine lv_aload_n hx hb dX5_addWindow_78 rfl (lv_at hl 0 rfl) ?_
  refine kr_get (T := TX5) (N := 28) hx hb hts hown hK (hm.lv 0 (by decide)) rfl kin_X5_addWindow_X5 21 (by decide) (by decide +kernel) rfl dX5_addWindow_79 ?_
  refine lv_aload_n hx hb dX5_addWindow_82 rfl (lv_at hl 0 rfl) ?_
  refine kr_get (T := TX5) (N := 28) hx hb hts hown hK (hm.lv 0 (by decide)) rfl kin_X5_addWindow_X5 20 (by decide) (by decide +kernel) rfl dX5_addWindow_83 ?_
  refine lv_iload_n hx hb dX5_addWindow_86 rfl (lv_at hl 1 rfl) ?_
  refine kr_ist hx hb hK hS (hm.lv 18 (by decide)) (hm.1 18 (by decide)).2 (j := τ 33 0) (x := nI i) ((show τ 33 0 < 12 from hn12)) (nI_clamp (ks31 ((show τ 33 0 < 12 from hn12)))) (nI_pos (ks31 ((show τ 33 0 < 12 from hn12)))) dX5_addWindow_87 (fun H1 locs hU ho hS => ?_)
  have hm := km_p18 (j := τ 33 0) (v := i) hm hU ho
  clear hU ho
  refine lv_aload_n hx hb dX5_addWindow_88 rfl (lv_at hl 0 rfl) ?_
  refine kr_get (T := TX5) (N := 28) hx hb hts hown hK (hm.lv 0 (by decide)) rfl kin_X5_addWindow_X5 22 (by decide) (by decide +kernel) rfl dX5_addWindow_89 ?_
  refine lv_aload_n hx hb dX5_addWindow_92 rfl (lv_at hl 0 rfl) ?_
  refine kr_get (T := TX5) (N := 28) hx hb hts hown hK (hm.lv 0 (by decide)) rfl kin_X5_addWindow_X5 20 (by decide) (by decide +kernel) rfl dX5_addWindow_93 ?_
  refine lv_iload_n hx hb dX5_addWindow_96 rfl (lv_at hl 2 rfl) ?_
  refine kr_ist hx hb hK hS (hm.lv 19 (by decide)) (hm.1 19 (by decide)).2 (j := τ 33 0) (x := nI t1) ((show τ 33 0 < 12 from hn12)) (nI_clamp (ks31 ((show τ 33 0 < 12 from hn12)))) (nI_pos (ks31 ((show τ 33 0 < 12 from hn12)))) dX5_addWindow_97 (fun H1 locs hU ho hS => ?_)
  have hm := km_p19 (j := τ 33 0) (v := t1) hm hU ho
  clear hU ho
  refine lv_aload_n hx hb dX5_addWindow_98 rfl (lv_at hl 0 rfl) ?_
  refine kr_get (T := TX5) (N := 28) hx hb hts hown hK (hm.lv 0 (by decide)) rfl kin_X5_addWindow_X5 23 (by decide) (by decide +kernel) rfl dX5_addWindow_99 ?_
  refine lv_aload_n hx hb dX5_addWindow_102 rfl (lv_at hl 0 rfl) ?_
  refine kr_get (T := TX5) (N := 28) hx hb hts hown hK (hm.lv 0 (by decide)) rfl kin_X5_addWindow_X5 20 (by decide) (by decide +kernel) rfl dX5_addWindow_103 ?_
  refine lv_iload_n hx hb dX5_addWindow_106 rfl (lv_at hl 2 rfl) ?_
  refine lv_iload_n hx hb dX5_addWindow_107 rfl (lv_at hl 3 rfl) ?_
  refine lv_iadd hx hb dX5_addWindow_108 ?_
  refine kr_top (y := nI (t1 + t2)) (nI_add _ _) ?_
  refine kr_ist hx hb hK hS (hm.lv 20 (by decide)) (hm.1 20 (by decide)).2 (j := τ 33 0) (x := nI (t1 + t2)) ((show τ 33 0 < 12 from hn12)) (nI_clamp (ks31 ((show τ 33 0 < 12 from hn12)))) (nI_pos (ks31 ((show τ 33 0 < 12 from hn12)))) dX5_addWindow_109 (fun H1 locs hU ho hS => ?_)
  have hm := km_p20 (j := τ 33 0) (v := t1 + t2) hm hU ho
  clear hU ho
  refine lv_aload_n hx hb dX5_addWindow_110 rfl (lv_at hl 0 rfl) ?_
  refine lv_dup hx hb dX5_addWindow_111 rfl ?_
  refine kr_get (T := TX5) (N := 28) hx hb hts hown hK (hm.lv 0 (by decide)) rfl kin_X5_addWindow_X5 20 (by decide) (by decide +kernel) rfl dX5_addWindow_112 ?_
  refine lv_iconst (v := 1) hx hb dX5_addWindow_115 (by decide) ?_
  refine lv_iadd hx hb dX5_addWindow_116 ?_
  refine kr_top (y := nI (τ 33 0 + 1)) (nI_1 _) ?_
  refine kr_put (T := TX5) (N := 28) (v := .int (nI (τ 33 0 + 1))) (ty := .int) hx hb hts hown hK hS (hm.lv 0 (by decide)) (hm.1 0 (by decide)).2 rfl kin_X5_addWindow_X5 tyX5 tyX5_ok nmX5 20 (by decide) "ProbewebModel" (hts (.fieldLink RX5 100 "ProbewebModel" "windows" "I") (by decide +kernel)) (fun _ h => h) rfl (by decide +kernel) rfl rfl (Nat.le_of_ble_eq_true rfl) dX5_addWindow_117 (fun H1 locs hU ho hS => ?_)
  have hm := km_p33 (v := τ 33 0 + 1) hm hU ho
  clear hU ho
  refine lv_aload_n hx hb dX5_addWindow_120 rfl (lv_at hl 0 rfl) ?_
  refine kr_get (T := TX5) (N := 28) hx hb hts hown hK (hm.lv 0 (by decide)) rfl kin_X5_addWindow_X5 20 (by decide) (by decide +kernel) rfl dX5_addWindow_121 ?_
  refine lv_iconst (v := 1) hx hb dX5_addWindow_124 (by decide) ?_
  refine lv_isub hx hb dX5_addWindow_125 ?_
  refine kr_top (y := nI (τ 33 0)) (nI_pred _) ?_
  refine kend_i S hr hlocks hS ⟨rfl, hm⟩ dX5_addWindow_126
set_option maxHeartbeats 4000000 in
set_option maxRecDepth 100000 in
theorem cm_addWindowX1 (ε : kEnv) (l : Launch) {A : Nat → Prop} {bd : Nat → Nat} {τ : kS} {H : Heap} {x x2 x3 : Int32} (hAb : ∀ q, A q → kHi ε q) (hm : kM ε A bd τ H) (hB : mB τ) (h : x < 0 ∨ nI (τ 32 0) ≤ x) : kMi ε l yX5_addWindow wsX5_addWindow ({ frames := 6, cells := 0, slots := 0, locals := 140 }) [.ref (bd 0), .int x, .int x2, .int x3] H A (0) (0) (fun v9 H' => v9 = 0 ∧ kM ε A bd (mT τ 1) H') := by
  refine kof (cc := cX5_addWindow) (maxL := 4) (ret := (some .int)) (by decide) rfl (Nat.le_of_ble_eq_true rfl) ?_
  intro p e s m below meth c ls S hr hlocks hin hH hE hl
  have S : CallFix p m c cX5_addWindow 4 s _ wsX5_addWindow RX5 := S
  have hx := S.1
  have hb := S.2.1
  have hown : s.vm.findClass RX5 = some m.cls := S.2.2.2.1
  have hts := S.2.2.2.2
  have hK := hE.1
  have hS : va_S A s.heap H [] := by rw [hH]; exact va_S.rf
  have hl : lv_has ls 4 [(0, .ref (bd 0)), (1, .int x), (2, .int x2), (3, .int x3)] := hl
  have hnR := hB.nR
  have hnC := hB.nC
  have hnW := hB.nW
  have hnA := hB.nA
  have hmn := hB.min
  refine lv_aload_n hx hb dX5_addWindow_0 rfl (lv_at hl 0 rfl) ?_
  refine lv_aload_n hx hb dX5_addWindow_1 rfl (lv_at hl 0 rfl) ?_
  refine lv_iload_n hx hb dX5_addWindow_2 rfl (lv_at hl 1 rfl) ?_
  refine kgo_pi (v := 0) (kc_V (As := [.int x]) (rest := [.ref (bd 0)]) S hE hS hAb (cm_isCheckF ε l hm hB h) (cwV 1 hts gX5_addWindow_X5_isCheck rfl rfl rfl (by decide +kernel) ⟨Nat.le_of_ble_eq_true rfl, Nat.le_of_ble_eq_true rfl⟩) (hm.lv 0 (by decide)) rfl rfl hl.1 rfl (Nat.le_of_ble_eq_true rfl) dX5_addWindow_3 ⟨Nat.zero_le _, Nat.zero_le _⟩) hS (fun locs hS => ?_)
  refine lv_if_ne (tgt := 13) hx hb dX5_addWindow_6 (by decide) (fun hc => absurd (by decide) hc) (fun _ => ?_)
  refine lv_iconst (v := 1) hx hb dX5_addWindow_9 (by decide) ?_
  refine lv_goto (tgt := 39) hx hb dX5_addWindow_10 (by decide) ?_
  refine kr_top (y := nI 1) (rfl) ?_
  refine kr_put (T := TX5) (N := 28) (v := .int (nI 1)) (ty := .int) hx hb hts hown hK hS (hm.lv 0 (by decide)) (hm.1 0 (by decide)).2 rfl kin_X5_addWindow_X5 tyX5 tyX5_ok nmX5 27 (by decide) "ProbewebModel" (hts (.fieldLink RX5 78 "ProbewebModel" "thrown" "I") (by decide +kernel)) (fun _ h => h) rfl (by decide +kernel) rfl rfl (Nat.le_of_ble_eq_true rfl) dX5_addWindow_39 (fun H1 locs hU ho hS => ?_)
  have hm := km_p35 (v := 1) hm hU ho
  clear hU ho
  have hB : mB (mT τ 1) := hB
  refine lv_aload_n hx hb dX5_addWindow_42 rfl (lv_at hl 0 rfl) ?_
  refine kr_get (T := TX5) (N := 28) hx hb hts hown hK (hm.lv 0 (by decide)) rfl kin_X5_addWindow_X5 27 (by decide) (by decide +kernel) rfl dX5_addWindow_43 ?_
  refine kr_top (y := 1) (rfl) ?_
  refine lv_if_le (tgt := 51) hx hb dX5_addWindow_46 (by decide) (fun hc => absurd hc (by decide)) (fun _ => ?_)
  refine lv_iconst (v := 0) hx hb dX5_addWindow_49 (by decide) ?_
  refine kend_i S hr hlocks hS ⟨rfl, hm⟩ dX5_addWindow_50
set_option maxHeartbeats 4000000 in
set_option maxRecDepth 100000 in
theorem cm_addWindowX2 (ε : kEnv) (l : Launch) {A : Nat → Prop} {bd : Nat → Nat} {τ : kS} {H : Heap} {i : Nat} {x2 x3 : Int32} (hAb : ∀ q, A q → kHi ε q) (hm : kM ε A bd τ H) (hB : mB τ) (hi : i < τ 32 0) (h : x2 < 0 ∨ ¬ x2 ≤ 100000) : kMi ε l yX5_addWindow wsX5_addWindow ({ frames := 6, cells := 0, slots := 0, locals := 140 }) [.ref (bd 0), .int (nI i), .int x2, .int x3] H A (0) (0) (fun v9 H' => v9 = 0 ∧ kM ε A bd (mT τ 2) H') := by
  refine kof (cc := cX5_addWindow) (maxL := 4) (ret := (some .int)) (by decide) rfl (Nat.le_of_ble_eq_true rfl) ?_
  intro p e s m below meth c ls S hr hlocks hin hH hE hl
  have S : CallFix p m c cX5_addWindow 4 s _ wsX5_addWindow RX5 := S
  have hx := S.1
  have hb := S.2.1
  have hown : s.vm.findClass RX5 = some m.cls := S.2.2.2.1
  have hts := S.2.2.2.2
  have hK := hE.1
  have hS : va_S A s.heap H [] := by rw [hH]; exact va_S.rf
  have hl : lv_has ls 4 [(0, .ref (bd 0)), (1, .int (nI i)), (2, .int x2), (3, .int x3)] := hl
  have hnR := hB.nR
  have hnC := hB.nC
  have hnW := hB.nW
  have hnA := hB.nA
  have hmn := hB.min
  refine lv_aload_n hx hb dX5_addWindow_0 rfl (lv_at hl 0 rfl) ?_
  refine lv_aload_n hx hb dX5_addWindow_1 rfl (lv_at hl 0 rfl) ?_
  refine lv_iload_n hx hb dX5_addWindow_2 rfl (lv_at hl 1 rfl) ?_
  refine kgo_pi (v := 1) (kc_V (As := [.int (nI i)]) (rest := [.ref (bd 0)]) S hE hS hAb (cm_isCheckT ε l hm hB hi) (cwV 1 hts gX5_addWindow_X5_isCheck rfl rfl rfl (by decide +kernel) ⟨Nat.le_of_ble_eq_true rfl, Nat.le_of_ble_eq_true rfl⟩) (hm.lv 0 (by decide)) rfl rfl hl.1 rfl (Nat.le_of_ble_eq_true rfl) dX5_addWindow_3 ⟨Nat.zero_le _, Nat.zero_le _⟩) hS (fun locs hS => ?_)
  refine lv_if_ne (tgt := 13) hx hb dX5_addWindow_6 (by decide) (fun _ => ?_) (fun hc => absurd hc (by decide))
  refine lv_iload_n hx hb dX5_addWindow_13 rfl (lv_at hl 2 rfl) ?_
  refine lv_iconst (v := 0) hx hb dX5_addWindow_14 (by decide) ?_
  refine lv_ldc (own := RX5) (v := 100000) hx hb hown (hts (.constant RX5 99 (100000)) (by decide +kernel)) dX5_addWindow_15 ?_
  refine kgo_pi (v := 0) (kc_S (As := [.int x2, .int 0, .int 100000]) (rest := [.ref (bd 0)]) S hE hS hAb (cm_isInF ε l h) (va_cwS 3 hts gX5_addWindow_X5_isIn rfl rfl rfl (by decide +kernel) ⟨Nat.le_of_ble_eq_true rfl, Nat.le_of_ble_eq_true rfl⟩) rfl hl.1 rfl (Nat.le_of_ble_eq_true rfl) dX5_addWindow_17 ⟨Nat.zero_le _, Nat.zero_le _⟩) hS (fun locs hS => ?_)
  refine lv_if_eq (tgt := 34) hx hb dX5_addWindow_20 (by decide) (fun _ => ?_) (fun hc => absurd (by decide) hc)
  refine lv_iconst (v := 2) hx hb dX5_addWindow_34 (by decide) ?_
  refine lv_goto (tgt := 39) hx hb dX5_addWindow_35 (by decide) ?_
  refine kr_top (y := nI 2) (rfl) ?_
  refine kr_put (T := TX5) (N := 28) (v := .int (nI 2)) (ty := .int) hx hb hts hown hK hS (hm.lv 0 (by decide)) (hm.1 0 (by decide)).2 rfl kin_X5_addWindow_X5 tyX5 tyX5_ok nmX5 27 (by decide) "ProbewebModel" (hts (.fieldLink RX5 78 "ProbewebModel" "thrown" "I") (by decide +kernel)) (fun _ h => h) rfl (by decide +kernel) rfl rfl (Nat.le_of_ble_eq_true rfl) dX5_addWindow_39 (fun H1 locs hU ho hS => ?_)
  have hm := km_p35 (v := 2) hm hU ho
  clear hU ho
  have hB : mB (mT τ 2) := hB
  refine lv_aload_n hx hb dX5_addWindow_42 rfl (lv_at hl 0 rfl) ?_
  refine kr_get (T := TX5) (N := 28) hx hb hts hown hK (hm.lv 0 (by decide)) rfl kin_X5_addWindow_X5 27 (by decide) (by decide +kernel) rfl dX5_addWindow_43 ?_
  refine kr_top (y := 2) (rfl) ?_
  refine lv_if_le (tgt := 51) hx hb dX5_addWindow_46 (by decide) (fun hc => absurd hc (by decide)) (fun _ => ?_)
  refine lv_iconst (v := 0) hx hb dX5_addWindow_49 (by decide) ?_
  refine kend_i S hr hlocks hS ⟨rfl, hm⟩ dX5_addWindow_50
set_option maxHeartbeats 4000000 in
set_option maxRecDepth 100000 in
theorem cm_addWindowX3 (ε : kEnv) (l : Launch) {A : Nat → Prop} {bd : Nat → Nat} {τ : kS} {H : Heap} {i : Nat} {x2 x3 : Int32} (hAb : ∀ q, A q → kHi ε q) (hm : kM ε A bd τ H) (hB : mB τ) (hi : i < τ 32 0) (a1 : ¬ x2 < 0) (b1 : x2 ≤ 100000) (h : x3 < 1 ∨ ¬ x3 ≤ 10000) : kMi ε l yX5_addWindow wsX5_addWindow ({ frames := 6, cells := 0, slots := 0, locals := 140 }) [.ref (bd 0), .int (nI i), .int x2, .int x3] H A (0) (0) (fun v9 H' => v9 = 0 ∧ kM ε A bd (mT τ 2) H') := by
  refine kof (cc := cX5_addWindow) (maxL := 4) (ret := (some .int)) (by decide) rfl (Nat.le_of_ble_eq_true rfl) ?_
  intro p e s m below meth c ls S hr hlocks hin hH hE hl
  have S : CallFix p m c cX5_addWindow 4 s _ wsX5_addWindow RX5 := S
  have hx := S.1
  have hb := S.2.1
  have hown : s.vm.findClass RX5 = some m.cls := S.2.2.2.1
  have hts := S.2.2.2.2
  have hK := hE.1
  have hS : va_S A s.heap H [] := by rw [hH]; exact va_S.rf
  have hl : lv_has ls 4 [(0, .ref (bd 0)), (1, .int (nI i)), (2, .int x2), (3, .int x3)] := hl
  have hnR := hB.nR
  have hnC := hB.nC
  have hnW := hB.nW
  have hnA := hB.nA
  have hmn := hB.min
  refine lv_aload_n hx hb dX5_addWindow_0 rfl (lv_at hl 0 rfl) ?_
  refine lv_aload_n hx hb dX5_addWindow_1 rfl (lv_at hl 0 rfl) ?_
  refine lv_iload_n hx hb dX5_addWindow_2 rfl (lv_at hl 1 rfl) ?_
  refine kgo_pi (v := 1) (kc_V (As := [.int (nI i)]) (rest := [.ref (bd 0)]) S hE hS hAb (cm_isCheckT ε l hm hB hi) (cwV 1 hts gX5_addWindow_X5_isCheck rfl rfl rfl (by decide +kernel) ⟨Nat.le_of_ble_eq_true rfl, Nat.le_of_ble_eq_true rfl⟩) (hm.lv 0 (by decide)) rfl rfl hl.1 rfl (Nat.le_of_ble_eq_true rfl) dX5_addWindow_3 ⟨Nat.zero_le _, Nat.zero_le _⟩) hS (fun locs hS => ?_)
  refine lv_if_ne (tgt := 13) hx hb dX5_addWindow_6 (by decide) (fun _ => ?_) (fun hc => absurd hc (by decide))
  refine lv_iload_n hx hb dX5_addWindow_13 rfl (lv_at hl 2 rfl) ?_
  refine lv_iconst (v := 0) hx hb dX5_addWindow_14 (by decide) ?_
  refine lv_ldc (own := RX5) (v := 100000) hx hb hown (hts (.constant RX5 99 (100000)) (by decide +kernel)) dX5_addWindow_15 ?_
  refine kgo_pi (v := 1) (kc_S (As := [.int x2, .int 0, .int 100000]) (rest := [.ref (bd 0)]) S hE hS hAb (cm_isInT ε l a1 b1) (va_cwS 3 hts gX5_addWindow_X5_isIn rfl rfl rfl (by decide +kernel) ⟨Nat.le_of_ble_eq_true rfl, Nat.le_of_ble_eq_true rfl⟩) rfl hl.1 rfl (Nat.le_of_ble_eq_true rfl) dX5_addWindow_17 ⟨Nat.zero_le _, Nat.zero_le _⟩) hS (fun locs hS => ?_)
  refine lv_if_eq (tgt := 34) hx hb dX5_addWindow_20 (by decide) (fun hc => absurd hc (by decide)) (fun _ => ?_)
  refine lv_iload_n hx hb dX5_addWindow_23 rfl (lv_at hl 3 rfl) ?_
  refine lv_iconst (v := 1) hx hb dX5_addWindow_24 (by decide) ?_
  refine lv_sipush (v := 10000) hx hb dX5_addWindow_25 (by decide) ?_
  refine kgo_pi (v := 0) (kc_S (As := [.int x3, .int 1, .int 10000]) (rest := [.ref (bd 0)]) S hE hS hAb (cm_isInF ε l h) (va_cwS 3 hts gX5_addWindow_X5_isIn rfl rfl rfl (by decide +kernel) ⟨Nat.le_of_ble_eq_true rfl, Nat.le_of_ble_eq_true rfl⟩) rfl hl.1 rfl (Nat.le_of_ble_eq_true rfl) dX5_addWindow_28 ⟨Nat.zero_le _, Nat.zero_le _⟩) hS (fun locs hS => ?_)
  refine lv_if_ne (tgt := 38) hx hb dX5_addWindow_31 (by decide) (fun hc => absurd (by decide) hc) (fun _ => ?_)
  refine lv_iconst (v := 2) hx hb dX5_addWindow_34 (by decide) ?_
  refine lv_goto (tgt := 39) hx hb dX5_addWindow_35 (by decide) ?_
  refine kr_top (y := nI 2) (rfl) ?_
  refine kr_put (T := TX5) (N := 28) (v := .int (nI 2)) (ty := .int) hx hb hts hown hK hS (hm.lv 0 (by decide)) (hm.1 0 (by decide)).2 rfl kin_X5_addWindow_X5 tyX5 tyX5_ok nmX5 27 (by decide) "ProbewebModel" (hts (.fieldLink RX5 78 "ProbewebModel" "thrown" "I") (by decide +kernel)) (fun _ h => h) rfl (by decide +kernel) rfl rfl (Nat.le_of_ble_eq_true rfl) dX5_addWindow_39 (fun H1 locs hU ho hS => ?_)
  have hm := km_p35 (v := 2) hm hU ho
  clear hU ho
  have hB : mB (mT τ 2) := hB
  refine lv_aload_n hx hb dX5_addWindow_42 rfl (lv_at hl 0 rfl) ?_
  refine kr_get (T := TX5) (N := 28) hx hb hts hown hK (hm.lv 0 (by decide)) rfl kin_X5_addWindow_X5 27 (by decide) (by decide +kernel) rfl dX5_addWindow_43 ?_
  refine kr_top (y := 2) (rfl) ?_
  refine lv_if_le (tgt := 51) hx hb dX5_addWindow_46 (by decide) (fun hc => absurd hc (by decide)) (fun _ => ?_)
  refine lv_iconst (v := 0) hx hb dX5_addWindow_49 (by decide) ?_
  refine kend_i S hr hlocks hS ⟨rfl, hm⟩ dX5_addWindow_50
set_option maxHeartbeats 4000000 in
set_option maxRecDepth 100000 in
theorem cm_addWindowX4 (ε : kEnv) (l : Launch) {A : Nat → Prop} {bd : Nat → Nat} {τ : kS} {H : Heap} {i : Nat} {x2 x3 : Int32} (hAb : ∀ q, A q → kHi ε q) (hm : kM ε A bd τ H) (hB : mB τ) (hi : i < τ 32 0) (a1 : ¬ x2 < 0) (b1 : x2 ≤ 100000) (a2 : ¬ x3 < 1) (b2 : x3 ≤ 10000) (h12 : τ 33 0 = 12) : kMi ε l yX5_addWindow wsX5_addWindow ({ frames := 6, cells := 0, slots := 0, locals := 140 }) [.ref (bd 0), .int (nI i), .int x2, .int x3] H A (0) (0) (fun v9 H' => v9 = 0 ∧ kM ε A bd (mT τ 3) H') := by
  refine kof (cc := cX5_addWindow) (maxL := 4) (ret := (some .int)) (by decide) rfl (Nat.le_of_ble_eq_true rfl) ?_
  intro p e s m below meth c ls S hr hlocks hin hH hE hl
  have S : CallFix p m c cX5_addWindow 4 s _ wsX5_addWindow RX5 := S
  have hx := S.1
  have hb := S.2.1
  have hown : s.vm.findClass RX5 = some m.cls := S.2.2.2.1
  have hts := S.2.2.2.2
  have hK := hE.1
  have hS : va_S A s.heap H [] := by rw [hH]; exact va_S.rf
  have hl : lv_has ls 4 [(0, .ref (bd 0)), (1, .int (nI i)), (2, .int x2), (3, .int x3)] := hl
  have hnR := hB.nR
  have hnC := hB.nC
  have hnW := hB.nW
  have hnA := hB.nA
  have hmn := hB.min
  refine lv_aload_n hx hb dX5_addWindow_0 rfl (lv_at hl 0 rfl) ?_
  refine lv_aload_n hx hb dX5_addWindow_1 rfl (lv_at hl 0 rfl) ?_
  refine lv_iload_n hx hb dX5_addWindow_2 rfl (lv_at hl 1 rfl) ?_
  refine kgo_pi (v := 1) (kc_V (As := [.int (nI i)]) (rest := [.ref (bd 0)]) S hE hS hAb (cm_isCheckT ε l hm hB hi) (cwV 1 hts gX5_addWindow_X5_isCheck rfl rfl rfl (by decide +kernel) ⟨Nat.le_of_ble_eq_true rfl, Nat.le_of_ble_eq_true rfl⟩) (hm.lv 0 (by decide)) rfl rfl hl.1 rfl (Nat.le_of_ble_eq_true rfl) dX5_addWindow_3 ⟨Nat.zero_le _, Nat.zero_le _⟩) hS (fun locs hS => ?_)
  refine lv_if_ne (tgt := 13) hx hb dX5_addWindow_6 (by decide) (fun _ => ?_) (fun hc => absurd hc (by decide))
  refine lv_iload_n hx hb dX5_addWindow_13 rfl (lv_at hl 2 rfl) ?_
  refine lv_iconst (v := 0) hx hb dX5_addWindow_14 (by decide) ?_
  refine lv_ldc (own := RX5) (v := 100000) hx hb hown (hts (.constant RX5 99 (100000)) (by decide +kernel)) dX5_addWindow_15 ?_
  refine kgo_pi (v := 1) (kc_S (As := [.int x2, .int 0, .int 100000]) (rest := [.ref (bd 0)]) S hE hS hAb (cm_isInT ε l a1 b1) (va_cwS 3 hts gX5_addWindow_X5_isIn rfl rfl rfl (by decide +kernel) ⟨Nat.le_of_ble_eq_true rfl, Nat.le_of_ble_eq_true rfl⟩) rfl hl.1 rfl (Nat.le_of_ble_eq_true rfl) dX5_addWindow_17 ⟨Nat.zero_le _, Nat.zero_le _⟩) hS (fun locs hS => ?_)
  refine lv_if_eq (tgt := 34) hx hb dX5_addWindow_20 (by decide) (fun hc => absurd hc (by decide)) (fun _ => ?_)
  refine lv_iload_n hx hb dX5_addWindow_23 rfl (lv_at hl 3 rfl) ?_
  refine lv_iconst (v := 1) hx hb dX5_addWindow_24 (by decide) ?_
  refine lv_sipush (v := 10000) hx hb dX5_addWindow_25 (by decide) ?_
  refine kgo_pi (v := 1) (kc_S (As := [.int x3, .int 1, .int 10000]) (rest := [.ref (bd 0)]) S hE hS hAb (cm_isInT ε l a2 b2) (va_cwS 3 hts gX5_addWindow_X5_isIn rfl rfl rfl (by decide +kernel) ⟨Nat.le_of_ble_eq_true rfl, Nat.le_of_ble_eq_true rfl⟩) rfl hl.1 rfl (Nat.le_of_ble_eq_true rfl) dX5_addWindow_28 ⟨Nat.zero_le _, Nat.zero_le _⟩) hS (fun locs hS => ?_)
  refine lv_if_ne (tgt := 38) hx hb dX5_addWindow_31 (by decide) (fun _ => ?_) (fun hc => absurd hc (by decide))
  refine lv_iconst (v := 0) hx hb dX5_addWindow_38 (by decide) ?_
  refine kr_top (y := nI 0) (rfl) ?_
  refine kr_put (T := TX5) (N := 28) (v := .int (nI 0)) (ty := .int) hx hb hts hown hK hS (hm.lv 0 (by decide)) (hm.1 0 (by decide)).2 rfl kin_X5_addWindow_X5 tyX5 tyX5_ok nmX5 27 (by decide) "ProbewebModel" (hts (.fieldLink RX5 78 "ProbewebModel" "thrown" "I") (by decide +kernel)) (fun _ h => h) rfl (by decide +kernel) rfl rfl (Nat.le_of_ble_eq_true rfl) dX5_addWindow_39 (fun H1 locs hU ho hS => ?_)
  have hm := km_p35 (v := 0) hm hU ho
  clear hU ho
  have hB : mB (mT τ 0) := hB
  refine lv_aload_n hx hb dX5_addWindow_42 rfl (lv_at hl 0 rfl) ?_
  refine kr_get (T := TX5) (N := 28) hx hb hts hown hK (hm.lv 0 (by decide)) rfl kin_X5_addWindow_X5 27 (by decide) (by decide +kernel) rfl dX5_addWindow_43 ?_
  refine kr_top (y := 0) (rfl) ?_
  refine lv_if_le (tgt := 51) hx hb dX5_addWindow_46 (by decide) (fun _ => ?_) (fun hc => absurd (by decide) hc)
  refine lv_aload_n hx hb dX5_addWindow_51 rfl (lv_at hl 0 rfl) ?_
  refine lv_aload_n hx hb dX5_addWindow_52 rfl (lv_at hl 0 rfl) ?_
  refine kr_get (T := TX5) (N := 28) hx hb hts hown hK (hm.lv 0 (by decide)) rfl kin_X5_addWindow_X5 20 (by decide) (by decide +kernel) rfl dX5_addWindow_53 ?_
  refine lv_bipush (v := 12) hx hb dX5_addWindow_56 (by decide) ?_
  refine lv_icmp_ne (tgt := 65) hx hb dX5_addWindow_58 (by decide) (fun hc => absurd (show nI (τ 33 0) = 12 by rw [h12]; rfl) hc) (fun _ => ?_)
  refine lv_iconst (v := 3) hx hb dX5_addWindow_61 (by decide) ?_
  refine lv_goto (tgt := 66) hx hb dX5_addWindow_62 (by decide) ?_
  refine kr_top (y := nI 3) (rfl) ?_
  refine kr_put (T := TX5) (N := 28) (v := .int (nI 3)) (ty := .int) hx hb hts hown hK hS (hm.lv 0 (by decide)) (hm.1 0 (by decide)).2 rfl kin_X5_addWindow_X5 tyX5 tyX5_ok nmX5 27 (by decide) "ProbewebModel" (hts (.fieldLink RX5 78 "ProbewebModel" "thrown" "I") (by decide +kernel)) (fun _ h => h) rfl (by decide +kernel) rfl rfl (Nat.le_of_ble_eq_true rfl) dX5_addWindow_66 (fun H1 locs hU ho hS => ?_)
  have hm := km_p35 (v := 3) hm hU ho
  clear hU ho
  have et : ku (mT τ 0) 35 0 3 = mT τ 3 := by funext g j; simp only [ku]; split <;> rfl
  rw [et] at hm
  refine lv_aload_n hx hb dX5_addWindow_69 rfl (lv_at hl 0 rfl) ?_
  refine kr_get (T := TX5) (N := 28) hx hb hts hown hK (hm.lv 0 (by decide)) rfl kin_X5_addWindow_X5 27 (by decide) (by decide +kernel) rfl dX5_addWindow_70 ?_
  refine kr_top (y := 3) (rfl) ?_
  refine lv_if_le (tgt := 78) hx hb dX5_addWindow_73 (by decide) (fun hc => absurd hc (by decide)) (fun _ => ?_)
  refine lv_iconst (v := 0) hx hb dX5_addWindow_76 (by decide) ?_
  refine kend_i S hr hlocks hS ⟨rfl, hm⟩ dX5_addWindow_77
