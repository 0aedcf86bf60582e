set_option maxHeartbeats 4000000 in
set_option maxRecDepth 100000 in
theorem cc_judge (ε : kEnv) (l : Launch) {A : Nat → Prop} {ad : Nat → Nat → Nat} {σ : kS} {H : Heap} {i t : Nat} (hAb : ∀ q, A q → kHi ε q) (hw : kW ε A ad σ H) (hB : kB σ) (hi : i < σ 2 0) (ht : t < 64) : kMv ε l yX1_judge wsX1_judge ({ frames := 1, cells := 0, slots := 0, locals := 21 }) [.ref (ad 4 i), .int (nI t)] H A (0) (0) (fun H' => kW ε A ad (ku σ 24 i (kVd (σ 23 i) t (fun r => σ 31 (6 * i + r)))) H') := by
  refine kof (cc := cX1_judge) (maxL := 4) (ret := none) (by decide) rfl (Nat.le_of_ble_eq_true rfl) ?_
  intro p e s m below meth c ls S hr hlocks hin hH hE hl
  have S : CallFix p m c cX1_judge 4 s _ wsX1_judge RX1 := S
  have hx := S.1
  have hb := S.2.1
  have hown : s.vm.findClass RX1 = some m.cls := S.2.2.2.1
  have hts := S.2.2.2.2
  have hK := hE.1
  have hS : va_S A s.heap H [] := by rw [hH]; exact va_S.rf
  have hl : lv_has ls 4 [(0, .ref (ad 4 i)), (1, .int (nI t))] := hl
  refine lv_iconst (v := 0) hx hb dX1_judge_0 (by decide) ?_
  refine lv_istore_n (lv' := [(2, .int 0), (0, .ref (ad 4 i)), (1, .int (nI t))]) hx hb dX1_judge_1 rfl hl (by decide) rfl (fun ls hl => ?_)
  refine lv_iconst (v := 0) hx hb dX1_judge_2 (by decide) ?_
  refine lv_istore_n (lv' := [(3, .int 0), (2, .int 0), (0, .ref (ad 4 i)), (1, .int (nI t))]) hx hb dX1_judge_3 rfl hl (by decide) rfl (fun ls hl => ?_)
  suffices K : ∀ (n k : Nat) (locs : List Loc) (ls : Array Slot), k + n = 6 → va_S A s.heap H locs → lv_has ls 4 [(3, .int (nI k)), (2, .int (nI (kcnt (fun r => t.testBit r && σ 31 (6 * i + r) == 2) k))), (0, .ref (ad 4 i)), (1, .int (nI t))] → W p l e ({ frames := 1, cells := 0, slots := 0, locals := 21 }) s m [.ref (ad 4 i), .int (nI t)].toArray below meth c H locs 0 0 (MQ below (kQv (fun H' => kW ε A ad (ku σ 24 i (kVd (σ 23 i) t (fun r => σ 31 (6 * i + r)))) H') A) [.ref (ad 4 i), .int (nI t)].toArray s (0) (0) A) (F0 m 4 ls []) from K 6 0 _ _ (Nat.zero_add _) hS (lv_sub hl [0, 1, 2, 3] rfl)
  clear hl hS
  intro n
  induction n with
  | zero =>
    intro k locs ls hkn  hS hl
    have hkN : k = 6 := hkn
    clear hkn
    subst hkN
    have hk := hB.ck i hi
    refine lv_iload_n hx hb dX1_judge_4 rfl (lv_at hl 0 rfl) ?_
    refine lv_bipush (v := 6) hx hb dX1_judge_5 (by decide) ?_
    refine lv_icmp_ge (tgt := 37) hx hb dX1_judge_7 (by decide) (fun _ => ?_) (fun hc => absurd (by decide) hc)
    refine lv_iload_n hx hb dX1_judge_37 rfl (lv_at hl 3 rfl) ?_
    refine kgo_pi (kc_S (As := [.int (nI t)]) (rest := []) S hE hS hAb (cc_bitCount ε l ht) (va_cwS 1 hts gX1_judge_J6_bitCount_0f7a4 rfl rfl rfl (by decide +kernel) ⟨Nat.le_of_ble_eq_true rfl, Nat.le_of_ble_eq_true rfl⟩) rfl hl.1 rfl (Nat.le_of_ble_eq_true rfl) dX1_judge_38 ⟨Nat.zero_le _, Nat.zero_le _⟩) hS (fun locs hS => ?_)
    refine lv_aload_n hx hb dX1_judge_41 rfl (lv_at hl 2 rfl) ?_
    refine kr_get (T := TX1) (N := 13) hx hb hts hown hK (hw.lv 4 i hi) rfl kin_X1_judge_X1 4 (by decide) (by decide +kernel) rfl dX1_judge_42 ?_
    have h6 := kcnt_le (fun r => t.testBit r) 6
    refine lv_icmp_ge (tgt := 56) hx hb dX1_judge_45 (by decide) (fun hc => ?_) (fun hc => ?_)
    · have hq : ¬ kcnt (fun r => t.testBit r) 6 < σ 23 i := fun h => absurd hc (nI_ge h (by omega))
      refine lv_aload_n hx hb dX1_judge_56 rfl (lv_at hl 2 rfl) ?_
      refine lv_iload_n hx hb dX1_judge_57 rfl (lv_at hl 1 rfl) ?_
      refine lv_aload_n hx hb dX1_judge_58 rfl (lv_at hl 2 rfl) ?_
      refine kr_get (T := TX1) (N := 13) hx hb hts hown hK (hw.lv 4 i hi) rfl kin_X1_judge_X1 4 (by decide) (by decide +kernel) rfl dX1_judge_59 ?_
      have h62 := kcnt_le (fun r => t.testBit r && σ 31 (6 * i + r) == 2) 6
      refine lv_icmp_lt (tgt := 69) hx hb dX1_judge_62 (by decide) (fun hc2 => ?_) (fun hc2 => ?_)
      · have hd : ¬ σ 23 i ≤ kcnt (fun r => t.testBit r && σ 31 (6 * i + r) == 2) 6 := fun h => absurd hc2 (nI_nlt h (by omega))
        refine lv_iconst (v := 1) hx hb dX1_judge_69 (by decide) ?_
        refine kr_put (T := TX1) (N := 13) (v := .int (nI 1)) (ty := .int) hx hb hts hown hK hS (hw.lv 4 i hi) (hw.1 4 i hi).2 rfl kin_X1_judge_X1 tyX1 tyX1_ok nmX1 9 (by decide) "Probeweb$Check" (hts (.fieldLink RX1 51 "Probeweb$Check" "lastVerdict" "I") (by decide +kernel)) (fun _ h => h) rfl (by decide +kernel) rfl rfl (Nat.le_of_ble_eq_true rfl) dX1_judge_70 (fun H1 locs hU ho hS => ?_)
        have hw := kw_p24 (v := 1) hw hi hU ho
        clear hU ho
        have he : kVd (σ 23 i) t (fun r => σ 31 (6 * i + r)) = 1 := by unfold kVd; rw [if_neg hq, if_neg hd]
        rw [← he] at hw
        refine kend_v S hr hlocks hS hw dX1_judge_73
      · have hd : σ 23 i ≤ kcnt (fun r => t.testBit r && σ 31 (6 * i + r) == 2) 6 := by
          rcases Nat.lt_or_ge (kcnt (fun r => t.testBit r && σ 31 (6 * i + r) == 2) 6) (σ 23 i) with h | h
          · exact absurd (nI_lt h (by omega)) hc2
          · exact h
        refine lv_iconst (v := 2) hx hb dX1_judge_65 (by decide) ?_
        refine lv_goto (tgt := 70) hx hb dX1_judge_66 (by decide) ?_
        refine kr_put (T := TX1) (N := 13) (v := .int (nI 2)) (ty := .int) hx hb hts hown hK hS (hw.lv 4 i hi) (hw.1 4 i hi).2 rfl kin_X1_judge_X1 tyX1 tyX1_ok nmX1 9 (by decide) "Probeweb$Check" (hts (.fieldLink RX1 51 "Probeweb$Check" "lastVerdict" "I") (by decide +kernel)) (fun _ h => h) rfl (by decide +kernel) rfl rfl (Nat.le_of_ble_eq_true rfl) dX1_judge_70 (fun H1 locs hU ho hS => ?_)
        have hw := kw_p24 (v := 2) hw hi hU ho
        clear hU ho
        have he : kVd (σ 23 i) t (fun r => σ 31 (6 * i + r)) = 2 := by unfold kVd; rw [if_neg hq, if_pos hd]
        rw [← he] at hw
        refine kend_v S hr hlocks hS hw dX1_judge_73
    · have hq : kcnt (fun r => t.testBit r) 6 < σ 23 i := by
        rcases Nat.lt_or_ge (kcnt (fun r => t.testBit r) 6) (σ 23 i) with h | h
        · exact h
        · exact absurd (nI_le h (by omega)) hc
      refine lv_aload_n hx hb dX1_judge_48 rfl (lv_at hl 2 rfl) ?_
      refine lv_iconst (v := 0) hx hb dX1_judge_49 (by decide) ?_
      refine kr_put (T := TX1) (N := 13) (v := .int (nI 0)) (ty := .int) hx hb hts hown hK hS (hw.lv 4 i hi) (hw.1 4 i hi).2 rfl kin_X1_judge_X1 tyX1 tyX1_ok nmX1 9 (by decide) "Probeweb$Check" (hts (.fieldLink RX1 51 "Probeweb$Check" "lastVerdict" "I") (by decide +kernel)) (fun _ h => h) rfl (by decide +kernel) rfl rfl (Nat.le_of_ble_eq_true rfl) dX1_judge_50 (fun H1 locs hU ho hS => ?_)
      have hw := kw_p24 (v := 0) hw hi hU ho
      clear hU ho
      refine lv_goto (tgt := 73) hx hb dX1_judge_53 (by decide) ?_
      have he : kVd (σ 23 i) t (fun r => σ 31 (6 * i + r)) = 0 := by unfold kVd; rw [if_pos hq]
      rw [← he] at hw
      refine kend_v S hr hlocks hS hw dX1_judge_73
  | succ n ih =>
    intro k locs ls hkn  hS hl
    have hlt : k < 6 := by omega
    refine lv_iload_n hx hb dX1_judge_4 rfl (lv_at hl 0 rfl) ?_
    refine lv_bipush (v := 6) hx hb dX1_judge_5 (by decide) ?_
    refine lv_icmp_ge (tgt := 37) hx hb dX1_judge_7 (by decide) (fun hc => absurd hc (nI_ge (b := 6) hlt (by decide))) (fun _ => ?_)
    refine lv_iload_n hx hb dX1_judge_10 rfl (lv_at hl 3 rfl) ?_
    refine lv_iload_n hx hb dX1_judge_11 rfl (lv_at hl 0 rfl) ?_
    refine kgo_pi (kc_SN (As := [.int (nI t), .int (nI k)]) (rest := []) S hE hS hAb (cc_holds ε l ht hlt) ⟨va_cnB 2 hts gX1_judge_X4_holds_n41 rfl rfl rfl (hE.2.2.2.2.1 (RX1, 41, yX4_holds, RX4) (by decide +kernel)) (hts (.initialized RX4) (by decide +kernel)) (by decide +kernel) ⟨Nat.le_of_ble_eq_true rfl, Nat.le_of_ble_eq_true rfl⟩, hts (.static yX4_holds) (by decide +kernel), trivial⟩ rfl hl.1 rfl (Nat.le_of_ble_eq_true rfl) dX1_judge_12 ⟨Nat.zero_le _, Nat.zero_le _⟩) hS (fun locs hS => ?_)
    refine lv_if_eq (tgt := 31) hx hb dX1_judge_15 (by decide) (fun hc => ?_) (fun hc => ?_)
    · have hs : kcnt (fun r => t.testBit r && σ 31 (6 * i + r) == 2) (k + 1) = kcnt (fun r => t.testBit r && σ 31 (6 * i + r) == 2) k := kcnt_f (by show (t.testBit k && σ 31 (6 * i + k) == 2) = false; rw [bI_eq0.mp hc]; rfl)
      rw [← hs] at hl
      refine lv_iinc (v := nI (k + 1)) (lv' := [(3, .int (nI (k + 1))), (2, .int (nI (kcnt (fun r => t.testBit r && σ 31 (6 * i + r) == 2) (k + 1)))), (0, .ref (ad 4 i)), (1, .int (nI t))]) hx hb dX1_judge_31 hl (k := 0) rfl (nI_1 k) (by decide) rfl (fun ls hl => ?_)
      refine lv_goto (tgt := 4) hx hb dX1_judge_34 (by decide) ?_
      exact ih (k + 1) _ _ (by omega) hS (lv_sub hl [0, 1, 2, 3] rfl)
    · have hp := hB.pr i k hi hlt
      refine lv_aload_n hx hb dX1_judge_18 rfl (lv_at hl 2 rfl) ?_
      refine kr_get (T := TX1) (N := 13) hx hb hts hown hK (hw.lv 4 i hi) rfl kin_X1_judge_X1 6 (by decide) (by decide +kernel) rfl dX1_judge_19 ?_
      refine lv_iload_n hx hb dX1_judge_22 rfl (lv_at hl 0 rfl) ?_
      refine kr_ild hx hb hK (hw.lv 5 i hi) (j := k) hlt (nI_clamp (ks31 hlt)) (nI_pos (ks31 hlt)) (x := nI (σ 31 (6 * i + k))) rfl dX1_judge_23 ?_
      refine lv_iconst (v := 2) hx hb dX1_judge_24 (by decide) ?_
      refine lv_icmp_ne (tgt := 31) hx hb dX1_judge_25 (by decide) (fun hc2 => ?_) (fun hc2 => ?_)
      · have hs : kcnt (fun r => t.testBit r && σ 31 (6 * i + r) == 2) (k + 1) = kcnt (fun r => t.testBit r && σ 31 (6 * i + r) == 2) k := kcnt_f (by show (t.testBit k && σ 31 (6 * i + k) == 2) = false; rw [show (σ 31 (6 * i + k) == 2) = false by simpa using fun h => hc2 (by rw [h]; rfl), Bool.and_false])
        rw [← hs] at hl
        refine lv_iinc (v := nI (k + 1)) (lv' := [(3, .int (nI (k + 1))), (2, .int (nI (kcnt (fun r => t.testBit r && σ 31 (6 * i + r) == 2) (k + 1)))), (0, .ref (ad 4 i)), (1, .int (nI t))]) hx hb dX1_judge_31 hl (k := 0) rfl (nI_1 k) (by decide) rfl (fun ls hl => ?_)
        refine lv_goto (tgt := 4) hx hb dX1_judge_34 (by decide) ?_
        exact ih (k + 1) _ _ (by omega) hS (lv_sub hl [0, 1, 2, 3] rfl)
      · have hs : kcnt (fun r => t.testBit r && σ 31 (6 * i + r) == 2) (k + 1) = kcnt (fun r => t.testBit r && σ 31 (6 * i + r) == 2) k + 1 := kcnt_t (by show (t.testBit k && σ 31 (6 * i + k) == 2) = true; rw [bI_ne0.mp hc, show (σ 31 (6 * i + k) == 2) = true by simpa using (nI_eq (by omega) (by decide)).mp hc2]; rfl)
        refine lv_iinc (v := nI (kcnt (fun r => t.testBit r && σ 31 (6 * i + r) == 2) (k + 1))) (lv' := [(2, .int (nI (kcnt (fun r => t.testBit r && σ 31 (6 * i + r) == 2) (k + 1)))), (3, .int (nI k)), (0, .ref (ad 4 i)), (1, .int (nI t))]) hx hb dX1_judge_28 hl (k := 1) rfl (by rw [hs]; exact nI_1 _) (by decide) rfl (fun ls hl => ?_)
        refine lv_iinc (v := nI (k + 1)) (lv' := [(3, .int (nI (k + 1))), (2, .int (nI (kcnt (fun r => t.testBit r && σ 31 (6 * i + r) == 2) (k + 1)))), (0, .ref (ad 4 i)), (1, .int (nI t))]) hx hb dX1_judge_31 hl (k := 1) rfl (nI_1 k) (by decide) rfl (fun ls hl => ?_)
        refine lv_goto (tgt := 4) hx hb dX1_judge_34 (by decide) ?_
        exact ih (k + 1) _ _ (by omega) hS (lv_sub hl [0, 1, 2, 3] rfl)
