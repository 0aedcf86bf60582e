/-! ===== the reference judges, raises ===== -/
theorem mI_s {v : Nat} (h : v ≠ 0) : mI v = nI (v - 1) := by
  cases v with
  | zero => exact absurd rfl h
  | succ v => rfl
theorem mI_ge {v : Nat} (h : v ≤ 2 ^ 30) : 0 ≤ mI v ↔ v ≠ 0 := by
  rw [← Int32.not_lt, mI_neg h]
theorem kin_X5_judged_X5 : ∀ w ∈ wsX50, w ∈ wsX5_judged := by decide +kernel
set_option maxHeartbeats 4000000 in
set_option maxRecDepth 100000 in
theorem cm_judged (ε : kEnv) (l : Launch) {A : Nat → Prop} {bd : Nat → Nat} {τ : kS} {H : Heap} {i : Nat} (hm : kM ε A bd τ H) (hB : mB τ) (hi : i < τ 32 0) : kPi ε l yX5_judged wsX5_judged ({ frames := 1, cells := 0, slots := 0, locals := 40 }) [.ref (bd 0), .int (nI i)] H (nI (mJd τ i)) := by
  refine kof (cc := cX5_judged) (maxL := 6) (ret := (some .int)) (by decide) rfl (Nat.le_of_ble_eq_true rfl) ?_
  intro p e s m below meth c ls S hr hlocks hin hH hE hl
  have S : CallFix p m c cX5_judged 6 s _ wsX5_judged RX5 := S
  have hx := S.1
  have hb := S.2.1
  have hown : s.vm.findClass RX5 = some m.cls := S.2.2.2.1
  have hts := S.2.2.2.2
  have hK := hE.1
  have hS : va_S kNo s.heap H [] := by rw [hH]; exact va_S.rf
  have hAb : ∀ q, kNo q → kHi ε q := fun _ h => h.elim
  have hl : lv_has ls 6 [(0, .ref (bd 0)), (1, .int (nI i))] := hl
  have hnR := hB.nR
  have hnC := hB.nC
  have hnW := hB.nW
  have hnA := hB.nA
  have hmn := hB.min
  refine lv_iconst (v := 0) hx hb dX5_judged_0 (by decide) ?_
  refine lv_istore_n (lv' := [(2, .int 0), (0, .ref (bd 0)), (1, .int (nI i))]) hx hb dX5_judged_1 rfl hl (by decide) rfl (fun ls hl => ?_)
  refine lv_iconst (v := 0) hx hb dX5_judged_2 (by decide) ?_
  refine lv_istore_n (lv' := [(3, .int 0), (2, .int 0), (0, .ref (bd 0)), (1, .int (nI i))]) hx hb dX5_judged_3 rfl hl (by decide) rfl (fun ls hl => ?_)
  refine lv_iconst (v := 0) hx hb dX5_judged_4 (by decide) ?_
  refine lv_istore (lv' := [(4, .int 0), (3, .int 0), (2, .int 0), (0, .ref (bd 0)), (1, .int (nI i))]) hx hb dX5_judged_5 hl (by decide) rfl (fun ls hl => ?_)
  suffices K : ∀ (n k : Nat) (locs : List Loc) (ls : Array Slot), k + n = τ 31 0 → va_S kNo s.heap H locs → lv_has ls 6 [(4, .int (nI k)), (3, .int (nI (kcnt (fun r => mTr τ i r && τ 15 (6 * i + r) == 2) k))), (2, .int (nI (kcnt (fun r => mTr τ i r) k))), (1, .int (nI i)), (0, .ref (bd 0))] → W p l e ({ frames := 1, cells := 0, slots := 0, locals := 40 }) s m [.ref (bd 0), .int (nI i)].toArray below meth c H locs 0 0 (MQ below (kQi (fun r9 H9 => r9 = nI (mJd τ i) ∧ H9 = H) kNo) [.ref (bd 0), .int (nI i)].toArray s 0 0 kNo) (F0 m 7 ls []) from K (τ 31 0) 0 _ _ (Nat.zero_add _) hS (lv_sub hl [0, 1, 2, 4, 3] rfl)
  clear hl hS
  intro n
  induction n with
  | zero =>
    intro k locs ls hkn  hS hl
    have hkN : k = τ 31 0 := hkn
    clear hkn
    have hck := hB.ck i hi
    have hk1 := kcnt_le (fun r => mTr τ i r) (τ 31 0)
    have hk2 := kcnt_le (fun r => mTr τ i r && τ 15 (6 * i + r) == 2) (τ 31 0)
    refine lv_iload hx hb dX5_judged_7 (lv_at hl 0 rfl) ?_
    refine lv_aload_n hx hb dX5_judged_9 rfl (lv_at hl 4 rfl) ?_
    refine kr_get (T := TX5) (N := 28) hx hb hts hown hK (hm.lv 0 (by decide)) rfl kin_X5_judged_X5 1 (by decide) (by decide +kernel) rfl dX5_judged_10 ?_
    refine lv_icmp_ge (tgt := 73) hx hb dX5_judged_13 (by decide) (fun _ => ?_) (fun hc => absurd (by rw [hkN]; exact Int32.le_refl _) hc)
    rw [hkN] at hl
    refine lv_iload_n hx hb dX5_judged_73 rfl (lv_at hl 2 rfl) ?_
    refine lv_aload_n hx hb dX5_judged_74 rfl (lv_at hl 4 rfl) ?_
    refine kr_get (T := TX5) (N := 28) hx hb hts hown hK (hm.lv 0 (by decide)) rfl kin_X5_judged_X5 11 (by decide) (by decide +kernel) rfl dX5_judged_75 ?_
    refine lv_iload_n hx hb dX5_judged_78 rfl (lv_at hl 3 rfl) ?_
    refine kr_ild hx hb hK (hm.lv 9 (by decide)) (j := i) ((show i < 8 by omega)) (nI_clamp (ks31 ((show i < 8 by omega)))) (nI_pos (ks31 ((show i < 8 by omega)))) (x := nI (τ 9 i)) rfl dX5_judged_79 ?_
    refine lv_icmp_ge (tgt := 87) hx hb dX5_judged_80 (by decide) (fun hc => ?_) (fun hc => ?_)
    · have hn : ¬ kcnt (fun r => mTr τ i r) ((τ 31 0)) < τ 9 i := fun h => nI_ge h (by omega) hc
      refine lv_iload_n hx hb dX5_judged_87 rfl (lv_at hl 1 rfl) ?_
      refine lv_aload_n hx hb dX5_judged_88 rfl (lv_at hl 4 rfl) ?_
      refine kr_get (T := TX5) (N := 28) hx hb hts hown hK (hm.lv 0 (by decide)) rfl kin_X5_judged_X5 11 (by decide) (by decide +kernel) rfl dX5_judged_89 ?_
      refine lv_iload_n hx hb dX5_judged_92 rfl (lv_at hl 3 rfl) ?_
      refine kr_ild hx hb hK (hm.lv 9 (by decide)) (j := i) ((show i < 8 by omega)) (nI_clamp (ks31 ((show i < 8 by omega)))) (nI_pos (ks31 ((show i < 8 by omega)))) (x := nI (τ 9 i)) rfl dX5_judged_93 ?_
      refine lv_icmp_lt (tgt := 101) hx hb dX5_judged_94 (by decide) (fun hd => ?_) (fun hd => ?_)
      · have hn2 : ¬ τ 9 i ≤ kcnt (fun r => mTr τ i r && τ 15 (6 * i + r) == 2) ((τ 31 0)) := fun h => nI_nlt h (by omega) hd
        refine lv_iconst (v := 1) hx hb dX5_judged_101 (by decide) ?_
        refine kend_i S hr hlocks hS ⟨by unfold mJd; rw [if_neg hn, if_neg hn2]; rfl, rfl⟩ dX5_judged_102
      · have hn2 : τ 9 i ≤ kcnt (fun r => mTr τ i r && τ 15 (6 * i + r) == 2) ((τ 31 0)) := Nat.le_of_not_lt (fun h => hd (nI_lt h (by omega)))
        refine lv_iconst (v := 2) hx hb dX5_judged_97 (by decide) ?_
        refine lv_goto (tgt := 102) hx hb dX5_judged_98 (by decide) ?_
        refine kend_i S hr hlocks hS ⟨by unfold mJd; rw [if_neg hn, if_pos hn2]; rfl, rfl⟩ dX5_judged_102
    · have hn : kcnt (fun r => mTr τ i r) ((τ 31 0)) < τ 9 i := Nat.lt_of_not_le (fun h => hc (nI_le h (by omega)))
      refine lv_iconst (v := 0) hx hb dX5_judged_83 (by decide) ?_
      refine lv_goto (tgt := 102) hx hb dX5_judged_84 (by decide) ?_
      refine kend_i S hr hlocks hS ⟨by unfold mJd; rw [if_pos hn]; rfl, rfl⟩ dX5_judged_102
  | succ n ih =>
    intro k locs ls hkn  hS hl
    have hlt : k < τ 31 0 := by omega
    have hpr := hB.pr (6 * i + k)
    refine lv_iload hx hb dX5_judged_7 (lv_at hl 0 rfl) ?_
    refine lv_aload_n hx hb dX5_judged_9 rfl (lv_at hl 4 rfl) ?_
    refine kr_get (T := TX5) (N := 28) hx hb hts hown hK (hm.lv 0 (by decide)) rfl kin_X5_judged_X5 1 (by decide) (by decide +kernel) rfl dX5_judged_10 ?_
    refine lv_icmp_ge (tgt := 73) hx hb dX5_judged_13 (by decide) (fun hc => absurd hc (nI_ge hlt (by omega))) (fun _ => ?_)
    refine lv_aload_n hx hb dX5_judged_16 rfl (lv_at hl 4 rfl) ?_
    refine lv_iload_n hx hb dX5_judged_17 rfl (lv_at hl 3 rfl) ?_
    refine lv_iload hx hb dX5_judged_18 (lv_at hl 0 rfl) ?_
    refine kgo_pi (v := bI (mTr τ i k)) (kc_V (As := [.int (nI i), .int (nI k)]) (rest := []) S hE hS hAb (cm_isTrusted ε l hm hB hi hlt) (cwV 2 hts gX5_judged_X5_isTrusted rfl rfl rfl (by decide +kernel) ⟨Nat.le_of_ble_eq_true rfl, Nat.le_of_ble_eq_true rfl⟩) (hm.lv 0 (by decide)) rfl rfl hl.1 rfl (Nat.le_of_ble_eq_true rfl) dX5_judged_20 ⟨Nat.zero_le _, Nat.zero_le _⟩) hS (fun locs hS => ?_)
    refine lv_istore (lv' := [(5, .int (bI (mTr τ i k))), (4, .int (nI k)), (3, .int (nI (kcnt (fun r => mTr τ i r && τ 15 (6 * i + r) == 2) k))), (2, .int (nI (kcnt (fun r => mTr τ i r) k))), (1, .int (nI i)), (0, .ref (bd 0))]) hx hb dX5_judged_23 hl (by decide) rfl (fun ls hl => ?_)
    refine lv_iload_n hx hb dX5_judged_25 rfl (lv_at hl 3 rfl) ?_
    refine lv_iload hx hb dX5_judged_26 (lv_at hl 0 rfl) ?_
    refine lv_if_eq (tgt := 35) hx hb dX5_judged_28 (by decide) (fun hc => ?_) (fun hc => ?_)
    · have ht : mTr τ i k = false := bI_eq0.mp hc
      have hc7 := hc
      refine lv_iconst (v := 0) hx hb dX5_judged_35 (by decide) ?_
      refine lv_iadd hx hb dX5_judged_36 ?_
      refine kr_top (y := nI (kcnt (fun r => mTr τ i r) (k + 1))) (by rw [kcnt_f ht]; exact Int32.add_zero _) ?_
      refine lv_istore_n (lv' := [(2, .int (nI (kcnt (fun r => mTr τ i r) (k + 1)))), (5, .int (bI (mTr τ i k))), (4, .int (nI k)), (3, .int (nI (kcnt (fun r => mTr τ i r && τ 15 (6 * i + r) == 2) k))), (1, .int (nI i)), (0, .ref (bd 0))]) hx hb dX5_judged_37 rfl hl (by decide) rfl (fun ls hl => ?_)
      refine lv_iload_n hx hb dX5_judged_38 rfl (lv_at hl 3 rfl) ?_
      refine lv_iload hx hb dX5_judged_39 (lv_at hl 1 rfl) ?_
      refine lv_if_eq (tgt := 64) hx hb dX5_judged_41 (by decide) (fun _ => ?_) (fun hc => absurd (hc7) hc)
      refine lv_iconst (v := 0) hx hb dX5_judged_64 (by decide) ?_
      refine lv_iadd hx hb dX5_judged_65 ?_
      refine kr_top (y := nI (kcnt (fun r => mTr τ i r && τ 15 (6 * i + r) == 2) (k + 1))) (by rw [kcnt_f (by show (mTr τ i k && _) = false; rw [ht]; rfl)]; exact Int32.add_zero _) ?_
      refine lv_istore_n (lv' := [(3, .int (nI (kcnt (fun r => mTr τ i r && τ 15 (6 * i + r) == 2) (k + 1)))), (2, .int (nI (kcnt (fun r => mTr τ i r) (k + 1)))), (5, .int (bI (mTr τ i k))), (4, .int (nI k)), (1, .int (nI i)), (0, .ref (bd 0))]) hx hb dX5_judged_66 rfl hl (by decide) rfl (fun ls hl => ?_)
      refine lv_iinc (v := nI (k + 1)) (lv' := [(4, .int (nI (k + 1))), (3, .int (nI (kcnt (fun r => mTr τ i r && τ 15 (6 * i + r) == 2) (k + 1)))), (2, .int (nI (kcnt (fun r => mTr τ i r) (k + 1)))), (5, .int (bI (mTr τ i k))), (1, .int (nI i)), (0, .ref (bd 0))]) hx hb dX5_judged_67 hl (k := 3) rfl (nI_1 k) (by decide) rfl (fun ls hl => ?_)
      refine lv_goto (tgt := 7) hx hb dX5_judged_70 (by decide) ?_
      exact ih (k + 1) _ _ (by omega) hS (lv_sub hl [0, 1, 2, 4, 5] rfl)
    · have ht : mTr τ i k = true := bI_ne0.mp hc
      have hc7 := hc
      refine lv_iconst (v := 1) hx hb dX5_judged_31 (by decide) ?_
      refine lv_goto (tgt := 36) hx hb dX5_judged_32 (by decide) ?_
      refine lv_iadd hx hb dX5_judged_36 ?_
      refine kr_top (y := nI (kcnt (fun r => mTr τ i r) (k + 1))) (by rw [kcnt_t ht]; exact nI_1 _) ?_
      refine lv_istore_n (lv' := [(2, .int (nI (kcnt (fun r => mTr τ i r) (k + 1)))), (5, .int (bI (mTr τ i k))), (4, .int (nI k)), (3, .int (nI (kcnt (fun r => mTr τ i r && τ 15 (6 * i + r) == 2) k))), (1, .int (nI i)), (0, .ref (bd 0))]) hx hb dX5_judged_37 rfl hl (by decide) rfl (fun ls hl => ?_)
      refine lv_iload_n hx hb dX5_judged_38 rfl (lv_at hl 3 rfl) ?_
      refine lv_iload hx hb dX5_judged_39 (lv_at hl 1 rfl) ?_
      refine lv_if_eq (tgt := 64) hx hb dX5_judged_41 (by decide) (fun hc => absurd hc (hc7)) (fun _ => ?_)
      refine lv_aload_n hx hb dX5_judged_44 rfl (lv_at hl 5 rfl) ?_
      refine kr_get (T := TX5) (N := 28) hx hb hts hown hK (hm.lv 0 (by decide)) rfl kin_X5_judged_X5 17 (by decide) (by decide +kernel) rfl dX5_judged_45 ?_
      refine lv_bipush (v := 6) hx hb dX5_judged_48 (by decide) ?_
      refine lv_iload_n hx hb dX5_judged_50 rfl (lv_at hl 4 rfl) ?_
      refine lv_imul hx hb dX5_judged_51 ?_
      refine kr_top (y := nI (6 * i)) (nI_mul 6 i) ?_
      refine lv_iload hx hb dX5_judged_52 (lv_at hl 2 rfl) ?_
      refine lv_iadd hx hb dX5_judged_54 ?_
      refine kr_top (y := nI (6 * i + k)) (nI_add _ _) ?_
      refine kr_ild hx hb hK (hm.lv 15 (by decide)) (j := 6 * i + k) ((show 6 * i + k < 48 by omega)) (nI_clamp (ks31 ((show 6 * i + k < 48 by omega)))) (nI_pos (ks31 ((show 6 * i + k < 48 by omega)))) (x := nI (τ 15 (6 * i + k))) rfl dX5_judged_55 ?_
      refine lv_iconst (v := 2) hx hb dX5_judged_56 (by decide) ?_
      refine lv_icmp_ne (tgt := 64) hx hb dX5_judged_57 (by decide) (fun hd => ?_) (fun hd => ?_)
      · refine lv_iconst (v := 0) hx hb dX5_judged_64 (by decide) ?_
        refine lv_iadd hx hb dX5_judged_65 ?_
        refine kr_top (y := nI (kcnt (fun r => mTr τ i r && τ 15 (6 * i + r) == 2) (k + 1))) (by rw [kcnt_f (by show (mTr τ i k && τ 15 (6 * i + k) == 2) = false; rw [ht]; simpa using fun h : τ 15 (6 * i + k) = 2 => hd (by rw [h]; rfl))]; exact Int32.add_zero _) ?_
        refine lv_istore_n (lv' := [(3, .int (nI (kcnt (fun r => mTr τ i r && τ 15 (6 * i + r) == 2) (k + 1)))), (2, .int (nI (kcnt (fun r => mTr τ i r) (k + 1)))), (5, .int (bI (mTr τ i k))), (4, .int (nI k)), (1, .int (nI i)), (0, .ref (bd 0))]) hx hb dX5_judged_66 rfl hl (by decide) rfl (fun ls hl => ?_)
        refine lv_iinc (v := nI (k + 1)) (lv' := [(4, .int (nI (k + 1))), (3, .int (nI (kcnt (fun r => mTr τ i r && τ 15 (6 * i + r) == 2) (k + 1)))), (2, .int (nI (kcnt (fun r => mTr τ i r) (k + 1)))), (5, .int (bI (mTr τ i k))), (1, .int (nI i)), (0, .ref (bd 0))]) hx hb dX5_judged_67 hl (k := 3) rfl (nI_1 k) (by decide) rfl (fun ls hl => ?_)
        refine lv_goto (tgt := 7) hx hb dX5_judged_70 (by decide) ?_
        exact ih (k + 1) _ _ (by omega) hS (lv_sub hl [0, 1, 2, 4, 5] rfl)
      · refine lv_iconst (v := 1) hx hb dX5_judged_60 (by decide) ?_
        refine lv_goto (tgt := 65) hx hb dX5_judged_61 (by decide) ?_
        refine lv_iadd hx hb dX5_judged_65 ?_
        refine kr_top (y := nI (kcnt (fun r => mTr τ i r && τ 15 (6 * i + r) == 2) (k + 1))) (by rw [kcnt_t (by show (mTr τ i k && τ 15 (6 * i + k) == 2) = true; rw [ht]; simpa using (nI_eq (by omega) (by decide)).mp hd)]; exact nI_1 _) ?_
        refine lv_istore_n (lv' := [(3, .int (nI (kcnt (fun r => mTr τ i r && τ 15 (6 * i + r) == 2) (k + 1)))), (2, .int (nI (kcnt (fun r => mTr τ i r) (k + 1)))), (5, .int (bI (mTr τ i k))), (4, .int (nI k)), (1, .int (nI i)), (0, .ref (bd 0))]) hx hb dX5_judged_66 rfl hl (by decide) rfl (fun ls hl => ?_)
        refine lv_iinc (v := nI (k + 1)) (lv' := [(4, .int (nI (k + 1))), (3, .int (nI (kcnt (fun r => mTr τ i r && τ 15 (6 * i + r) == 2) (k + 1)))), (2, .int (nI (kcnt (fun r => mTr τ i r) (k + 1)))), (5, .int (bI (mTr τ i k))), (1, .int (nI i)), (0, .ref (bd 0))]) hx hb dX5_judged_67 hl (k := 3) rfl (nI_1 k) (by decide) rfl (fun ls hl => ?_)
        refine lv_goto (tgt := 7) hx hb dX5_judged_70 (by decide) ?_
        exact ih (k + 1) _ _ (by omega) hS (lv_sub hl [0, 1, 2, 4, 5] rfl)
theorem kin_X5_raises_X5 : ∀ w ∈ wsX50, w ∈ wsX5_raises := by decide +kernel
set_option maxHeartbeats 4000000 in
set_option maxRecDepth 100000 in
theorem cm_raises (ε : kEnv) (l : Launch) {A : Nat → Prop} {bd : Nat → Nat} {τ : kS} {H : Heap} {i : Nat} (hAb : ∀ q, A q → kHi ε q) (hm : kM ε A bd τ H) (hB : mB τ) (hi : i < τ 32 0) : kMv ε l yX5_raises wsX5_raises ({ frames := 1, cells := 0, slots := 0, locals := 40 }) [.ref (bd 0), .int (nI i)] H A (0) (0) (fun H' => kM ε A bd (mRs τ i) H') := by
  refine kof (cc := cX5_raises) (maxL := 2) (ret := none) (by decide) rfl (Nat.le_of_ble_eq_true rfl) ?_
  intro p e s m below meth c ls S hr hlocks hin hH hE hl
  have S : CallFix p m c cX5_raises 2 s _ wsX5_raises RX5 := S
  have hx := S.1
  have hb := S.2.1
  have hown : s.vm.findClass RX5 = some m.cls := S.2.2.2.1
  have hts := S.2.2.2.2
  have hK := hE.1
  have hS : va_S A s.heap H [] := by rw [hH]; exact va_S.rf
  have hl : lv_has ls 2 [(0, .ref (bd 0)), (1, .int (nI i))] := hl
  have hnR := hB.nR
  have hnC := hB.nC
  have hnW := hB.nW
  have hnA := hB.nA
  have hmn := hB.min
  have hck := hB.ck i hi
  refine lv_aload_n hx hb dX5_raises_0 rfl (lv_at hl 0 rfl) ?_
  refine kr_get (T := TX5) (N := 28) hx hb hts hown hK (hm.lv 0 (by decide)) rfl kin_X5_raises_X5 12 (by decide) (by decide +kernel) rfl dX5_raises_1 ?_
  refine lv_iload_n hx hb dX5_raises_4 rfl (lv_at hl 1 rfl) ?_
  refine kr_ild hx hb hK (hm.lv 10 (by decide)) (j := i) ((show i < 8 by omega)) (nI_clamp (ks31 ((show i < 8 by omega)))) (nI_pos (ks31 ((show i < 8 by omega)))) (x := nI (τ 10 i)) rfl dX5_raises_5 ?_
  refine lv_iconst (v := 2) hx hb dX5_raises_6 (by decide) ?_
  refine lv_icmp_ne (tgt := 75) hx hb dX5_raises_7 (by decide) (fun hc => ?_) (fun hc => ?_)
  · have hnr : ¬ (τ 10 i = 2 ∧ τ 11 i = 0 ∧ mMt τ i (τ 33 0) = false) := fun h => hc (by rw [h.1]; rfl)
    refine lv_aload_n hx hb dX5_raises_75 rfl (lv_at hl 0 rfl) ?_
    refine kr_get (T := TX5) (N := 28) hx hb hts hown hK (hm.lv 0 (by decide)) rfl kin_X5_raises_X5 12 (by decide) (by decide +kernel) rfl dX5_raises_76 ?_
    refine lv_iload_n hx hb dX5_raises_79 rfl (lv_at hl 1 rfl) ?_
    refine kr_ild hx hb hK (hm.lv 10 (by decide)) (j := i) ((show i < 8 by omega)) (nI_clamp (ks31 ((show i < 8 by omega)))) (nI_pos (ks31 ((show i < 8 by omega)))) (x := nI (τ 10 i)) rfl dX5_raises_80 ?_
    refine lv_iconst (v := 1) hx hb dX5_raises_81 (by decide) ?_
    refine lv_icmp_ne (tgt := 116) hx hb dX5_raises_82 (by decide) (fun hd => ?_) (fun hd => ?_)
    · have he : mRs τ i = τ := by unfold mRs; rw [if_neg hnr, if_neg (fun h => hd (by rw [h.1]; rfl))]
      rw [← he] at hm
      refine kend_v S hr hlocks hS hm dX5_raises_116
    · have h1 : τ 10 i = 1 := (nI_eq (by omega) (by decide)).mp hd
      refine lv_aload_n hx hb dX5_raises_85 rfl (lv_at hl 0 rfl) ?_
      refine kr_get (T := TX5) (N := 28) hx hb hts hown hK (hm.lv 0 (by decide)) rfl kin_X5_raises_X5 13 (by decide) (by decide +kernel) rfl dX5_raises_86 ?_
      refine lv_iload_n hx hb dX5_raises_89 rfl (lv_at hl 1 rfl) ?_
      refine kr_ild hx hb hK (hm.lv 11 (by decide)) (j := i) ((show i < 8 by omega)) (nI_clamp (ks31 ((show i < 8 by omega)))) (nI_pos (ks31 ((show i < 8 by omega)))) (x := mI (τ 11 i)) rfl dX5_raises_90 ?_
      refine lv_if_lt (tgt := 116) hx hb dX5_raises_91 (by decide) (fun hf => ?_) (fun hf => ?_)
      · have he : mRs τ i = τ := by unfold mRs; rw [if_neg hnr, if_neg (fun h => h.2 ((mI_neg (by omega)).mp hf))]
        rw [← he] at hm
        refine kend_v S hr hlocks hS hm dX5_raises_116
      · have h25 : τ 11 i ≠ 0 := fun h => hf ((mI_neg (by omega)).mpr h)
        refine lv_aload_n hx hb dX5_raises_94 rfl (lv_at hl 0 rfl) ?_
        refine kr_get (T := TX5) (N := 28) hx hb hts hown hK (hm.lv 0 (by decide)) rfl kin_X5_raises_X5 26 (by decide) (by decide +kernel) rfl dX5_raises_95 ?_
        refine lv_aload_n hx hb dX5_raises_98 rfl (lv_at hl 0 rfl) ?_
        refine kr_get (T := TX5) (N := 28) hx hb hts hown hK (hm.lv 0 (by decide)) rfl kin_X5_raises_X5 13 (by decide) (by decide +kernel) rfl dX5_raises_99 ?_
        refine lv_iload_n hx hb dX5_raises_102 rfl (lv_at hl 1 rfl) ?_
        refine kr_ild hx hb hK (hm.lv 11 (by decide)) (j := i) ((show i < 8 by omega)) (nI_clamp (ks31 ((show i < 8 by omega)))) (nI_pos (ks31 ((show i < 8 by omega)))) (x := mI (τ 11 i)) rfl dX5_raises_103 ?_
        refine kr_top (y := nI (τ 11 i - 1)) (mI_s h25) ?_
        refine lv_aload_n hx hb dX5_raises_104 rfl (lv_at hl 0 rfl) ?_
        refine kr_get (T := TX5) (N := 28) hx hb hts hown hK (hm.lv 0 (by decide)) rfl kin_X5_raises_X5 0 (by decide) (by decide +kernel) rfl dX5_raises_105 ?_
        refine kr_top (y := mI (τ 30 0 + 1)) (rfl) ?_
        refine kr_ist hx hb hK hS (hm.lv 22 (by decide)) (hm.1 22 (by decide)).2 (j := τ 11 i - 1) (x := mI (τ 30 0 + 1)) ((show τ 11 i - 1 < 60000 by omega)) (nI_clamp (ks31 ((show τ 11 i - 1 < 60000 by omega)))) (nI_pos (ks31 ((show τ 11 i - 1 < 60000 by omega)))) dX5_raises_108 (fun H1 locs hU ho hS => ?_)
        have hm := km_p22 (j := τ 11 i - 1) (v := τ 30 0 + 1) hm hU ho
        clear hU ho
        refine lv_aload_n hx hb dX5_raises_109 rfl (lv_at hl 0 rfl) ?_
        refine kr_get (T := TX5) (N := 28) hx hb hts hown hK (hm.lv 0 (by decide)) rfl kin_X5_raises_X5 13 (by decide) (by decide +kernel) rfl dX5_raises_110 ?_
        refine lv_iload_n hx hb dX5_raises_113 rfl (lv_at hl 1 rfl) ?_
        refine lv_iconst (v := -1) hx hb dX5_raises_114 (by decide) ?_
        refine kr_top (y := mI 0) (rfl) ?_
        refine kr_ist hx hb hK hS (hm.lv 11 (by decide)) (hm.1 11 (by decide)).2 (j := i) (x := mI 0) ((show i < 8 by omega)) (nI_clamp (ks31 ((show i < 8 by omega)))) (nI_pos (ks31 ((show i < 8 by omega)))) dX5_raises_115 (fun H1 locs hU ho hS => ?_)
        have hm := km_p11 (j := i) (v := 0) hm hU ho
        clear hU ho
        have he : mRs τ i = mClo τ i := by unfold mRs; rw [if_neg hnr, if_pos ⟨h1, h25⟩]
        have hm : kM ε A bd (mRs τ i) H1 := by rw [he]; exact hm
        refine kend_v S hr hlocks hS hm dX5_raises_116
  · have h2 : τ 10 i = 2 := (nI_eq (by omega) (by decide)).mp hc
    refine lv_aload_n hx hb dX5_raises_10 rfl (lv_at hl 0 rfl) ?_
    refine kr_get (T := TX5) (N := 28) hx hb hts hown hK (hm.lv 0 (by decide)) rfl kin_X5_raises_X5 13 (by decide) (by decide +kernel) rfl dX5_raises_11 ?_
    refine lv_iload_n hx hb dX5_raises_14 rfl (lv_at hl 1 rfl) ?_
    refine kr_ild hx hb hK (hm.lv 11 (by decide)) (j := i) ((show i < 8 by omega)) (nI_clamp (ks31 ((show i < 8 by omega)))) (nI_pos (ks31 ((show i < 8 by omega)))) (x := mI (τ 11 i)) rfl dX5_raises_15 ?_
    refine lv_if_ge (tgt := 75) hx hb dX5_raises_16 (by decide) (fun hg => ?_) (fun hg => ?_)
    · have hnr : ¬ (τ 10 i = 2 ∧ τ 11 i = 0 ∧ mMt τ i (τ 33 0) = false) := fun h => (mI_ge (by omega)).mp hg h.2.1
      refine lv_aload_n hx hb dX5_raises_75 rfl (lv_at hl 0 rfl) ?_
      refine kr_get (T := TX5) (N := 28) hx hb hts hown hK (hm.lv 0 (by decide)) rfl kin_X5_raises_X5 12 (by decide) (by decide +kernel) rfl dX5_raises_76 ?_
      refine lv_iload_n hx hb dX5_raises_79 rfl (lv_at hl 1 rfl) ?_
      refine kr_ild hx hb hK (hm.lv 10 (by decide)) (j := i) ((show i < 8 by omega)) (nI_clamp (ks31 ((show i < 8 by omega)))) (nI_pos (ks31 ((show i < 8 by omega)))) (x := nI (τ 10 i)) rfl dX5_raises_80 ?_
      refine lv_iconst (v := 1) hx hb dX5_raises_81 (by decide) ?_
      refine lv_icmp_ne (tgt := 116) hx hb dX5_raises_82 (by decide) (fun hd => ?_) (fun hd => ?_)
      · have he : mRs τ i = τ := by unfold mRs; rw [if_neg hnr, if_neg (fun h => hd (by rw [h.1]; rfl))]
        rw [← he] at hm
        refine kend_v S hr hlocks hS hm dX5_raises_116
      · have h1 : τ 10 i = 1 := (nI_eq (by omega) (by decide)).mp hd
        refine lv_aload_n hx hb dX5_raises_85 rfl (lv_at hl 0 rfl) ?_
        refine kr_get (T := TX5) (N := 28) hx hb hts hown hK (hm.lv 0 (by decide)) rfl kin_X5_raises_X5 13 (by decide) (by decide +kernel) rfl dX5_raises_86 ?_
        refine lv_iload_n hx hb dX5_raises_89 rfl (lv_at hl 1 rfl) ?_
        refine kr_ild hx hb hK (hm.lv 11 (by decide)) (j := i) ((show i < 8 by omega)) (nI_clamp (ks31 ((show i < 8 by omega)))) (nI_pos (ks31 ((show i < 8 by omega)))) (x := mI (τ 11 i)) rfl dX5_raises_90 ?_
        refine lv_if_lt (tgt := 116) hx hb dX5_raises_91 (by decide) (fun hf => ?_) (fun hf => ?_)
        · have he : mRs τ i = τ := by unfold mRs; rw [if_neg hnr, if_neg (fun h => h.2 ((mI_neg (by omega)).mp hf))]
          rw [← he] at hm
          refine kend_v S hr hlocks hS hm dX5_raises_116
        · have h25 : τ 11 i ≠ 0 := fun h => hf ((mI_neg (by omega)).mpr h)
          refine lv_aload_n hx hb dX5_raises_94 rfl (lv_at hl 0 rfl) ?_
          refine kr_get (T := TX5) (N := 28) hx hb hts hown hK (hm.lv 0 (by decide)) rfl kin_X5_raises_X5 26 (by decide) (by decide +kernel) rfl dX5_raises_95 ?_
          refine lv_aload_n hx hb dX5_raises_98 rfl (lv_at hl 0 rfl) ?_
          refine kr_get (T := TX5) (N := 28) hx hb hts hown hK (hm.lv 0 (by decide)) rfl kin_X5_raises_X5 13 (by decide) (by decide +kernel) rfl dX5_raises_99 ?_
          refine lv_iload_n hx hb dX5_raises_102 rfl (lv_at hl 1 rfl) ?_
          refine kr_ild hx hb hK (hm.lv 11 (by decide)) (j := i) ((show i < 8 by omega)) (nI_clamp (ks31 ((show i < 8 by omega)))) (nI_pos (ks31 ((show i < 8 by omega)))) (x := mI (τ 11 i)) rfl dX5_raises_103 ?_
          refine kr_top (y := nI (τ 11 i - 1)) (mI_s h25) ?_
          refine lv_aload_n hx hb dX5_raises_104 rfl (lv_at hl 0 rfl) ?_
          refine kr_get (T := TX5) (N := 28) hx hb hts hown hK (hm.lv 0 (by decide)) rfl kin_X5_raises_X5 0 (by decide) (by decide +kernel) rfl dX5_raises_105 ?_
          refine kr_top (y := mI (τ 30 0 + 1)) (rfl) ?_
          refine kr_ist hx hb hK hS (hm.lv 22 (by decide)) (hm.1 22 (by decide)).2 (j := τ 11 i - 1) (x := mI (τ 30 0 + 1)) ((show τ 11 i - 1 < 60000 by omega)) (nI_clamp (ks31 ((show τ 11 i - 1 < 60000 by omega)))) (nI_pos (ks31 ((show τ 11 i - 1 < 60000 by omega)))) dX5_raises_108 (fun H1 locs hU ho hS => ?_)
          have hm := km_p22 (j := τ 11 i - 1) (v := τ 30 0 + 1) hm hU ho
          clear hU ho
          refine lv_aload_n hx hb dX5_raises_109 rfl (lv_at hl 0 rfl) ?_
          refine kr_get (T := TX5) (N := 28) hx hb hts hown hK (hm.lv 0 (by decide)) rfl kin_X5_raises_X5 13 (by decide) (by decide +kernel) rfl dX5_raises_110 ?_
          refine lv_iload_n hx hb dX5_raises_113 rfl (lv_at hl 1 rfl) ?_
          refine lv_iconst (v := -1) hx hb dX5_raises_114 (by decide) ?_
          refine kr_top (y := mI 0) (rfl) ?_
          refine kr_ist hx hb hK hS (hm.lv 11 (by decide)) (hm.1 11 (by decide)).2 (j := i) (x := mI 0) ((show i < 8 by omega)) (nI_clamp (ks31 ((show i < 8 by omega)))) (nI_pos (ks31 ((show i < 8 by omega)))) dX5_raises_115 (fun H1 locs hU ho hS => ?_)
          have hm := km_p11 (j := i) (v := 0) hm hU ho
          clear hU ho
          have he : mRs τ i = mClo τ i := by unfold mRs; rw [if_neg hnr, if_pos ⟨h1, h25⟩]
          have hm : kM ε A bd (mRs τ i) H1 := by rw [he]; exact hm
          refine kend_v S hr hlocks hS hm dX5_raises_116
    · have h0 : τ 11 i = 0 := Classical.byContradiction (fun h => hg ((mI_ge (by omega)).mpr h))
      refine lv_aload_n hx hb dX5_raises_19 rfl (lv_at hl 0 rfl) ?_
      refine lv_iload_n hx hb dX5_raises_20 rfl (lv_at hl 1 rfl) ?_
      refine kgo_pi (v := bI (mMt τ i (τ 33 0))) (kc_V (As := [.int (nI i)]) (rest := []) S hE hS hAb (cm_isMnt ε l hm hB hi) (cwV 1 hts gX5_raises_X5_isMaintained rfl rfl rfl (by decide +kernel) ⟨Nat.le_of_ble_eq_true rfl, Nat.le_of_ble_eq_true rfl⟩) (hm.lv 0 (by decide)) rfl rfl hl.1 rfl (Nat.le_of_ble_eq_true rfl) dX5_raises_21 ⟨Nat.zero_le _, Nat.zero_le _⟩) hS (fun locs hS => ?_)
      refine lv_if_ne (tgt := 75) hx hb dX5_raises_24 (by decide) (fun hj => ?_) (fun hj => ?_)
      · have hnr : ¬ (τ 10 i = 2 ∧ τ 11 i = 0 ∧ mMt τ i (τ 33 0) = false) := fun h => hj (by rw [h.2.2]; rfl)
        refine lv_aload_n hx hb dX5_raises_75 rfl (lv_at hl 0 rfl) ?_
        refine kr_get (T := TX5) (N := 28) hx hb hts hown hK (hm.lv 0 (by decide)) rfl kin_X5_raises_X5 12 (by decide) (by decide +kernel) rfl dX5_raises_76 ?_
        refine lv_iload_n hx hb dX5_raises_79 rfl (lv_at hl 1 rfl) ?_
        refine kr_ild hx hb hK (hm.lv 10 (by decide)) (j := i) ((show i < 8 by omega)) (nI_clamp (ks31 ((show i < 8 by omega)))) (nI_pos (ks31 ((show i < 8 by omega)))) (x := nI (τ 10 i)) rfl dX5_raises_80 ?_
        refine lv_iconst (v := 1) hx hb dX5_raises_81 (by decide) ?_
        refine lv_icmp_ne (tgt := 116) hx hb dX5_raises_82 (by decide) (fun hd => ?_) (fun hd => ?_)
        · have he : mRs τ i = τ := by unfold mRs; rw [if_neg hnr, if_neg (fun h => hd (by rw [h.1]; rfl))]
          rw [← he] at hm
          refine kend_v S hr hlocks hS hm dX5_raises_116
        · have h1 : τ 10 i = 1 := (nI_eq (by omega) (by decide)).mp hd
          refine lv_aload_n hx hb dX5_raises_85 rfl (lv_at hl 0 rfl) ?_
          refine kr_get (T := TX5) (N := 28) hx hb hts hown hK (hm.lv 0 (by decide)) rfl kin_X5_raises_X5 13 (by decide) (by decide +kernel) rfl dX5_raises_86 ?_
          refine lv_iload_n hx hb dX5_raises_89 rfl (lv_at hl 1 rfl) ?_
          refine kr_ild hx hb hK (hm.lv 11 (by decide)) (j := i) ((show i < 8 by omega)) (nI_clamp (ks31 ((show i < 8 by omega)))) (nI_pos (ks31 ((show i < 8 by omega)))) (x := mI (τ 11 i)) rfl dX5_raises_90 ?_
          refine lv_if_lt (tgt := 116) hx hb dX5_raises_91 (by decide) (fun hf => ?_) (fun hf => ?_)
          · have he : mRs τ i = τ := by unfold mRs; rw [if_neg hnr, if_neg (fun h => h.2 ((mI_neg (by omega)).mp hf))]
            rw [← he] at hm
            refine kend_v S hr hlocks hS hm dX5_raises_116
          · have h25 : τ 11 i ≠ 0 := fun h => hf ((mI_neg (by omega)).mpr h)
            refine lv_aload_n hx hb dX5_raises_94 rfl (lv_at hl 0 rfl) ?_
            refine kr_get (T := TX5) (N := 28) hx hb hts hown hK (hm.lv 0 (by decide)) rfl kin_X5_raises_X5 26 (by decide) (by decide +kernel) rfl dX5_raises_95 ?_
            refine lv_aload_n hx hb dX5_raises_98 rfl (lv_at hl 0 rfl) ?_
            refine kr_get (T := TX5) (N := 28) hx hb hts hown hK (hm.lv 0 (by decide)) rfl kin_X5_raises_X5 13 (by decide) (by decide +kernel) rfl dX5_raises_99 ?_
            refine lv_iload_n hx hb dX5_raises_102 rfl (lv_at hl 1 rfl) ?_
            refine kr_ild hx hb hK (hm.lv 11 (by decide)) (j := i) ((show i < 8 by omega)) (nI_clamp (ks31 ((show i < 8 by omega)))) (nI_pos (ks31 ((show i < 8 by omega)))) (x := mI (τ 11 i)) rfl dX5_raises_103 ?_
            refine kr_top (y := nI (τ 11 i - 1)) (mI_s h25) ?_
            refine lv_aload_n hx hb dX5_raises_104 rfl (lv_at hl 0 rfl) ?_
            refine kr_get (T := TX5) (N := 28) hx hb hts hown hK (hm.lv 0 (by decide)) rfl kin_X5_raises_X5 0 (by decide) (by decide +kernel) rfl dX5_raises_105 ?_
            refine kr_top (y := mI (τ 30 0 + 1)) (rfl) ?_
            refine kr_ist hx hb hK hS (hm.lv 22 (by decide)) (hm.1 22 (by decide)).2 (j := τ 11 i - 1) (x := mI (τ 30 0 + 1)) ((show τ 11 i - 1 < 60000 by omega)) (nI_clamp (ks31 ((show τ 11 i - 1 < 60000 by omega)))) (nI_pos (ks31 ((show τ 11 i - 1 < 60000 by omega)))) dX5_raises_108 (fun H1 locs hU ho hS => ?_)
            have hm := km_p22 (j := τ 11 i - 1) (v := τ 30 0 + 1) hm hU ho
            clear hU ho
            refine lv_aload_n hx hb dX5_raises_109 rfl (lv_at hl 0 rfl) ?_
            refine kr_get (T := TX5) (N := 28) hx hb hts hown hK (hm.lv 0 (by decide)) rfl kin_X5_raises_X5 13 (by decide) (by decide +kernel) rfl dX5_raises_110 ?_
            refine lv_iload_n hx hb dX5_raises_113 rfl (lv_at hl 1 rfl) ?_
            refine lv_iconst (v := -1) hx hb dX5_raises_114 (by decide) ?_
            refine kr_top (y := mI 0) (rfl) ?_
            refine kr_ist hx hb hK hS (hm.lv 11 (by decide)) (hm.1 11 (by decide)).2 (j := i) (x := mI 0) ((show i < 8 by omega)) (nI_clamp (ks31 ((show i < 8 by omega)))) (nI_pos (ks31 ((show i < 8 by omega)))) dX5_raises_115 (fun H1 locs hU ho hS => ?_)
            have hm := km_p11 (j := i) (v := 0) hm hU ho
            clear hU ho
            have he : mRs τ i = mClo τ i := by unfold mRs; rw [if_neg hnr, if_pos ⟨h1, h25⟩]
            have hm : kM ε A bd (mRs τ i) H1 := by rw [he]; exact hm
            refine kend_v S hr hlocks hS hm dX5_raises_116
      · have h3 : mMt τ i (τ 33 0) = false := bI_eq0.mp hj
        refine lv_aload_n hx hb dX5_raises_27 rfl (lv_at hl 0 rfl) ?_
        refine kr_get (T := TX5) (N := 28) hx hb hts hown hK (hm.lv 0 (by decide)) rfl kin_X5_raises_X5 25 (by decide) (by decide +kernel) rfl dX5_raises_28 ?_
        refine lv_aload_n hx hb dX5_raises_31 rfl (lv_at hl 0 rfl) ?_
        refine kr_get (T := TX5) (N := 28) hx hb hts hown hK (hm.lv 0 (by decide)) rfl kin_X5_raises_X5 24 (by decide) (by decide +kernel) rfl dX5_raises_32 ?_
        refine lv_bipush (v := 8) hx hb dX5_raises_35 (by decide) ?_
        refine lv_aload_n hx hb dX5_raises_37 rfl (lv_at hl 0 rfl) ?_
        refine kr_get (T := TX5) (N := 28) hx hb hts hown hK (hm.lv 0 (by decide)) rfl kin_X5_raises_X5 0 (by decide) (by decide +kernel) rfl dX5_raises_38 ?_
        refine lv_imul hx hb dX5_raises_41 ?_
        refine kr_top (y := nI (8 * τ 30 0)) (nI_mul 8 _) ?_
        refine lv_iload_n hx hb dX5_raises_42 rfl (lv_at hl 1 rfl) ?_
        refine lv_iadd hx hb dX5_raises_43 ?_
        refine kr_top (y := nI (8 * τ 30 0 + i)) (nI_add _ _) ?_
        refine kr_ist hx hb hK hS (hm.lv 21 (by decide)) (hm.1 21 (by decide)).2 (j := τ 34 0) (x := nI (8 * τ 30 0 + i)) ((show τ 34 0 < 60000 by omega)) (nI_clamp (ks31 ((show τ 34 0 < 60000 by omega)))) (nI_pos (ks31 ((show τ 34 0 < 60000 by omega)))) dX5_raises_44 (fun H1 locs hU ho hS => ?_)
        have hm := km_p21 (j := τ 34 0) (v := 8 * τ 30 0 + i) hm hU ho
        clear hU ho
        refine lv_aload_n hx hb dX5_raises_45 rfl (lv_at hl 0 rfl) ?_
        refine kr_get (T := TX5) (N := 28) hx hb hts hown hK (hm.lv 0 (by decide)) rfl kin_X5_raises_X5 26 (by decide) (by decide +kernel) rfl dX5_raises_46 ?_
        refine lv_aload_n hx hb dX5_raises_49 rfl (lv_at hl 0 rfl) ?_
        refine kr_get (T := TX5) (N := 28) hx hb hts hown hK (hm.lv 0 (by decide)) rfl kin_X5_raises_X5 24 (by decide) (by decide +kernel) rfl dX5_raises_50 ?_
        refine lv_iconst (v := -1) hx hb dX5_raises_53 (by decide) ?_
        refine kr_top (y := mI 0) (rfl) ?_
        refine kr_ist hx hb hK hS (hm.lv 22 (by decide)) (hm.1 22 (by decide)).2 (j := τ 34 0) (x := mI 0) ((show τ 34 0 < 60000 by omega)) (nI_clamp (ks31 ((show τ 34 0 < 60000 by omega)))) (nI_pos (ks31 ((show τ 34 0 < 60000 by omega)))) dX5_raises_54 (fun H1 locs hU ho hS => ?_)
        have hm := km_p22 (j := τ 34 0) (v := 0) hm hU ho
        clear hU ho
        refine lv_aload_n hx hb dX5_raises_55 rfl (lv_at hl 0 rfl) ?_
        refine kr_get (T := TX5) (N := 28) hx hb hts hown hK (hm.lv 0 (by decide)) rfl kin_X5_raises_X5 13 (by decide) (by decide +kernel) rfl dX5_raises_56 ?_
        refine lv_iload_n hx hb dX5_raises_59 rfl (lv_at hl 1 rfl) ?_
        refine lv_aload_n hx hb dX5_raises_60 rfl (lv_at hl 0 rfl) ?_
        refine kr_get (T := TX5) (N := 28) hx hb hts hown hK (hm.lv 0 (by decide)) rfl kin_X5_raises_X5 24 (by decide) (by decide +kernel) rfl dX5_raises_61 ?_
        refine kr_top (y := mI (τ 34 0 + 1)) (rfl) ?_
        refine kr_ist hx hb hK hS (hm.lv 11 (by decide)) (hm.1 11 (by decide)).2 (j := i) (x := mI (τ 34 0 + 1)) ((show i < 8 by omega)) (nI_clamp (ks31 ((show i < 8 by omega)))) (nI_pos (ks31 ((show i < 8 by omega)))) dX5_raises_64 (fun H1 locs hU ho hS => ?_)
        have hm := km_p11 (j := i) (v := τ 34 0 + 1) hm hU ho
        clear hU ho
        refine lv_aload_n hx hb dX5_raises_65 rfl (lv_at hl 0 rfl) ?_
        refine lv_dup hx hb dX5_raises_66 rfl ?_
        refine kr_get (T := TX5) (N := 28) hx hb hts hown hK (hm.lv 0 (by decide)) rfl kin_X5_raises_X5 24 (by decide) (by decide +kernel) rfl dX5_raises_67 ?_
        refine lv_iconst (v := 1) hx hb dX5_raises_70 (by decide) ?_
        refine lv_iadd hx hb dX5_raises_71 ?_
        refine kr_top (y := nI (τ 34 0 + 1)) (nI_1 _) ?_
        refine kr_put (T := TX5) (N := 28) (v := .int (nI (τ 34 0 + 1))) (ty := .int) hx hb hts hown hK hS (hm.lv 0 (by decide)) (hm.1 0 (by decide)).2 rfl kin_X5_raises_X5 tyX5 tyX5_ok nmX5 24 (by decide) "ProbewebModel" (hts (.fieldLink RX5 119 "ProbewebModel" "alarms" "I") (by decide +kernel)) (fun _ h => h) rfl (by decide +kernel) rfl rfl (Nat.le_of_ble_eq_true rfl) dX5_raises_72 (fun H1 locs hU ho hS => ?_)
        have hm := km_p34 (v := τ 34 0 + 1) hm hU ho
        clear hU ho
        have he : mRs τ i = mRai τ i := by unfold mRs; rw [if_pos ⟨h2, h0, h3⟩]
        have hm : kM ε A bd (mRs τ i) H1 := by rw [he]; exact hm
        have e10 : mRai τ i 10 i = 2 := h2
        have hm2 : kM ε A bd (mRai τ i) H1 := by rw [← he]; exact hm
        refine lv_aload_n hx hb dX5_raises_75 rfl (lv_at hl 0 rfl) ?_
        refine kr_get (T := TX5) (N := 28) hx hb hts hown hK (hm2.lv 0 (by decide)) rfl kin_X5_raises_X5 12 (by decide) (by decide +kernel) rfl dX5_raises_76 ?_
        refine lv_iload_n hx hb dX5_raises_79 rfl (lv_at hl 1 rfl) ?_
        refine kr_ild hx hb hK (hm2.lv 10 (by decide)) (j := i) ((show i < 8 by omega)) (nI_clamp (ks31 ((show i < 8 by omega)))) (nI_pos (ks31 ((show i < 8 by omega)))) (x := nI ((mRai τ i) 10 i)) rfl dX5_raises_80 ?_
        refine kr_top (y := 2) (by rw [e10]; rfl) ?_
        refine lv_iconst (v := 1) hx hb dX5_raises_81 (by decide) ?_
        refine lv_icmp_ne (tgt := 116) hx hb dX5_raises_82 (by decide) (fun _ => ?_) (fun hc => absurd hc (by decide))
        refine kend_v S hr hlocks hS hm dX5_raises_116
