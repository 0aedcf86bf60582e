set_option maxHeartbeats 4000000 in
set_option maxRecDepth 100000 in
theorem cc_takeF (ε : kEnv) (l : Launch) {A : Nat → Prop} {ad : Nat → Nat → Nat} {σ : kS} {H : Heap} {i r t : Nat} (hAb : ∀ q, A q → kHi ε q) (hw : kW ε A ad σ H) (hB : kB σ) (hi : i < σ 2 0) (hr6 : r < 6) (ht : t ≤ 102400) : kMv ε l yX1_takeFailure wsX1_takeFailure ({ frames := 0, cells := 0, slots := 0, locals := 0 }) [.ref (ad 4 i), .int (nI r), .int (nI t)] H A (0) (0) (fun H' => kW ε A ad (kTakeF σ i r t) H') := by
  refine kof (cc := cX1_takeFailure) (maxL := 4) (ret := none) (by decide) rfl (Nat.le_of_ble_eq_true rfl) ?_
  intro p e s m below meth c ls S hr hlocks hin hH hE hl
  have S : CallFix p m c cX1_takeFailure 4 s _ wsX1_takeFailure RX1 := S
  have hx := S.1
  have hb := S.2.1
  have hown : s.vm.findClass RX1 = some m.cls := S.2.2.2.1
  have hts := S.2.2.2.2
  have hK := hE.1
  have hS : va_S A s.heap H [] := by rw [hH]; exact va_S.rf
  have hl : lv_has ls 4 [(0, .ref (ad 4 i)), (1, .int (nI r)), (2, .int (nI t))] := hl
  have hk := hB.ck i hi
  have hp := hB.pr i r hi hr6
  refine lv_aload_n hx hb dX1_takeFailure_0 rfl (lv_at hl 0 rfl) ?_
  refine kr_get (T := TX1) (N := 13) hx hb hts hown hK (hw.lv 4 i hi) rfl kin_X1_takeFailure_X1 7 (by decide) (by decide +kernel) rfl dX1_takeFailure_1 ?_
  refine lv_iload_n hx hb dX1_takeFailure_4 rfl (lv_at hl 1 rfl) ?_
  refine kr_ild hx hb hK (hw.lv 6 i hi) (j := r) hr6 (nI_clamp (ks31 hr6)) (nI_pos (ks31 hr6)) (x := nI (σ 32 (6 * i + r))) rfl dX1_takeFailure_5 ?_
  refine lv_iconst (v := 1) hx hb dX1_takeFailure_6 (by decide) ?_
  refine lv_iadd hx hb dX1_takeFailure_7 ?_
  refine kr_top (y := nI (σ 32 (6 * i + r) + 1)) (nI_1 _) ?_
  refine lv_istore_n (lv' := [(3, .int (nI (σ 32 (6 * i + r) + 1))), (0, .ref (ad 4 i)), (1, .int (nI r)), (2, .int (nI t))]) hx hb dX1_takeFailure_8 rfl hl (by decide) rfl (fun ls hl => ?_)
  refine lv_aload_n hx hb dX1_takeFailure_9 rfl (lv_at hl 1 rfl) ?_
  refine kr_get (T := TX1) (N := 13) hx hb hts hown hK (hw.lv 4 i hi) rfl kin_X1_takeFailure_X1 7 (by decide) (by decide +kernel) rfl dX1_takeFailure_10 ?_
  refine lv_iload_n hx hb dX1_takeFailure_13 rfl (lv_at hl 2 rfl) ?_
  refine lv_iconst (v := 0) hx hb dX1_takeFailure_14 (by decide) ?_
  refine kr_ist hx hb hK hS (hw.lv 6 i hi) (hw.1 6 i hi).2 (j := r) (x := nI 0) hr6 (nI_clamp (ks31 hr6)) (nI_pos (ks31 hr6)) dX1_takeFailure_15 (fun H1 locs hU ho hS => ?_)
  have hw := kw_p32 (v := 0) hw hi hr6 hU ho
  clear hU ho
  refine lv_aload_n hx hb dX1_takeFailure_16 rfl (lv_at hl 1 rfl) ?_
  refine kr_get (T := TX1) (N := 13) hx hb hts hown hK (hw.lv 4 i hi) rfl kin_X1_takeFailure_X1 6 (by decide) (by decide +kernel) rfl dX1_takeFailure_17 ?_
  refine lv_iload_n hx hb dX1_takeFailure_20 rfl (lv_at hl 2 rfl) ?_
  refine kr_ild hx hb hK (hw.lv 5 i hi) (j := r) hr6 (nI_clamp (ks31 hr6)) (nI_pos (ks31 hr6)) (x := nI (ku σ 32 (6 * i + r) 0 31 (6 * i + r))) rfl dX1_takeFailure_21 ?_
  refine kr_top (y := nI (σ 31 (6 * i + r))) (by rw [ku_f _ _ _ _ (by decide)]) ?_
  refine lv_iconst (v := 2) hx hb dX1_takeFailure_22 (by decide) ?_
  refine lv_icmp_ne (tgt := 27) hx hb dX1_takeFailure_23 (by decide) (fun hc => ?_) (fun hc => ?_)
  · have hd : ¬ σ 31 (6 * i + r) = 2 := fun h => hc (by rw [h]; rfl)
    refine lv_iload_n hx hb dX1_takeFailure_27 rfl (lv_at hl 0 rfl) ?_
    refine lv_aload_n hx hb dX1_takeFailure_28 rfl (lv_at hl 1 rfl) ?_
    refine kr_get (T := TX1) (N := 13) hx hb hts hown hK (hw.lv 4 i hi) rfl kin_X1_takeFailure_X1 3 (by decide) (by decide +kernel) rfl dX1_takeFailure_29 ?_
    refine kr_top (y := nI (σ 22 i)) (by rw [ku_f _ _ _ _ (by decide)]) ?_
    refine lv_icmp_le (tgt := 43) hx hb dX1_takeFailure_32 (by decide) (fun hc2 => ?_) (fun hc2 => ?_)
    · have hm : ¬ σ 22 i < σ 32 (6 * i + r) + 1 := fun h => absurd hc2 (Int32.not_le.mpr (nI_lt h (by omega)))
      refine lv_aload_n hx hb dX1_takeFailure_43 rfl (lv_at hl 1 rfl) ?_
      refine kr_get (T := TX1) (N := 13) hx hb hts hown hK (hw.lv 4 i hi) rfl kin_X1_takeFailure_X1 7 (by decide) (by decide +kernel) rfl dX1_takeFailure_44 ?_
      refine lv_iload_n hx hb dX1_takeFailure_47 rfl (lv_at hl 2 rfl) ?_
      refine lv_iload_n hx hb dX1_takeFailure_48 rfl (lv_at hl 0 rfl) ?_
      refine kr_ist hx hb hK hS (hw.lv 6 i hi) (hw.1 6 i hi).2 (j := r) (x := nI (σ 32 (6 * i + r) + 1)) hr6 (nI_clamp (ks31 hr6)) (nI_pos (ks31 hr6)) dX1_takeFailure_49 (fun H1 locs hU ho hS => ?_)
      have hw := kw_p32 (v := σ 32 (6 * i + r) + 1) hw hi hr6 hU ho
      clear hU ho
      refine lv_aload_n hx hb dX1_takeFailure_50 rfl (lv_at hl 1 rfl) ?_
      refine kr_get (T := TX1) (N := 13) hx hb hts hown hK (hw.lv 4 i hi) rfl kin_X1_takeFailure_X1 8 (by decide) (by decide +kernel) rfl dX1_takeFailure_51 ?_
      refine lv_iload_n hx hb dX1_takeFailure_54 rfl (lv_at hl 2 rfl) ?_
      refine lv_iload_n hx hb dX1_takeFailure_55 rfl (lv_at hl 3 rfl) ?_
      refine lv_iconst (v := 1) hx hb dX1_takeFailure_56 (by decide) ?_
      refine lv_iadd hx hb dX1_takeFailure_57 ?_
      refine kr_top (y := nI (t + 1)) (nI_1 _) ?_
      refine lv_iconst (v := 3) hx hb dX1_takeFailure_58 (by decide) ?_
      refine lv_aload_n hx hb dX1_takeFailure_59 rfl (lv_at hl 1 rfl) ?_
      refine kr_get (T := TX1) (N := 13) hx hb hts hown hK (hw.lv 4 i hi) rfl kin_X1_takeFailure_X1 0 (by decide) (by decide +kernel) rfl dX1_takeFailure_60 ?_
      refine lv_imul hx hb dX1_takeFailure_63 ?_
      refine kr_top (y := nI (3 * i)) (pk_mul 3 i) ?_
      refine lv_iconst (v := 5) hx hb dX1_takeFailure_64 (by decide) ?_
      refine lv_iload_n hx hb dX1_takeFailure_65 rfl (lv_at hl 2 rfl) ?_
      refine lv_imul hx hb dX1_takeFailure_66 ?_
      refine kr_top (y := nI (5 * r)) (pk_mul 5 r) ?_
      refine lv_iadd hx hb dX1_takeFailure_67 ?_
      refine kr_top (y := nI (3 * i + 5 * r)) (nI_add _ _) ?_
      refine lv_bipush (v := 7) hx hb dX1_takeFailure_68 (by decide) ?_
      refine lv_iload_n hx hb dX1_takeFailure_70 rfl (lv_at hl 0 rfl) ?_
      refine lv_imul hx hb dX1_takeFailure_71 ?_
      refine kr_top (y := nI (7 * (σ 32 (6 * i + r) + 1))) (pk_mul 7 _) ?_
      refine lv_iadd hx hb dX1_takeFailure_72 ?_
      refine kr_top (y := nI (3 * i + 5 * r + 7 * (σ 32 (6 * i + r) + 1))) (nI_add _ _) ?_
      refine lv_iconst (v := 4) hx hb dX1_takeFailure_73 (by decide) ?_
      have hi8 := hB.c8 hi
      refine lv_irem hx hb dX1_takeFailure_74 (by decide) ?_
      refine kr_top (y := nI ((3 * i + 5 * r + 7 * (σ 32 (6 * i + r) + 1)) % 4)) (pk_rem (d := 4) (by omega) (by decide) (by decide)) ?_
      refine lv_iadd hx hb dX1_takeFailure_75 ?_
      refine kr_top (y := nI (t + 1 + (3 * i + 5 * r + 7 * (σ 32 (6 * i + r) + 1)) % 4)) (nI_add _ _) ?_
      refine kr_ist hx hb hK hS (hw.lv 7 i hi) (hw.1 7 i hi).2 (j := r) (x := nI (t + 1 + (3 * i + 5 * r + 7 * (σ 32 (6 * i + r) + 1)) % 4)) hr6 (nI_clamp (ks31 hr6)) (nI_pos (ks31 hr6)) dX1_takeFailure_76 (fun H1 locs hU ho hS => ?_)
      have hw := kw_p33 (v := t + 1 + (3 * i + 5 * r + 7 * (σ 32 (6 * i + r) + 1)) % 4) hw hi hr6 hU ho
      clear hU ho
      have he : kTakeF σ i r t = (ku (ku (ku σ 32 (6 * i + r) 0) 32 (6 * i + r) (σ 32 (6 * i + r) + 1)) 33 (6 * i + r) (t + 1 + (3 * i + 5 * r + 7 * (σ 32 (6 * i + r) + 1)) % 4)) := by unfold kTakeF; rw [if_neg hd, if_neg hm]
      rw [← he] at hw
      refine kend_v S hr hlocks hS hw dX1_takeFailure_77
    · have hm : σ 22 i < σ 32 (6 * i + r) + 1 := by
        rcases Nat.lt_or_ge (σ 22 i) (σ 32 (6 * i + r) + 1) with h | h
        · exact h
        · exact absurd (nI_le h (by omega)) hc2
      refine lv_aload_n hx hb dX1_takeFailure_35 rfl (lv_at hl 1 rfl) ?_
      refine kr_get (T := TX1) (N := 13) hx hb hts hown hK (hw.lv 4 i hi) rfl kin_X1_takeFailure_X1 6 (by decide) (by decide +kernel) rfl dX1_takeFailure_36 ?_
      refine lv_iload_n hx hb dX1_takeFailure_39 rfl (lv_at hl 2 rfl) ?_
      refine lv_iconst (v := 2) hx hb dX1_takeFailure_40 (by decide) ?_
      refine kr_ist hx hb hK hS (hw.lv 5 i hi) (hw.1 5 i hi).2 (j := r) (x := nI 2) hr6 (nI_clamp (ks31 hr6)) (nI_pos (ks31 hr6)) dX1_takeFailure_41 (fun H1 locs hU ho hS => ?_)
      have hw := kw_p31 (v := 2) hw hi hr6 hU ho
      clear hU ho
      have he : kTakeF σ i r t = (ku (ku σ 32 (6 * i + r) 0) 31 (6 * i + r) 2) := by unfold kTakeF; rw [if_neg hd, if_pos hm]
      rw [← he] at hw
      refine kend_v S hr hlocks hS hw dX1_takeFailure_42
  · have hd : σ 31 (6 * i + r) = 2 := (nI_eq (by omega) (by decide)).mp hc
    have he : kTakeF σ i r t = (ku σ 32 (6 * i + r) 0) := by unfold kTakeF; rw [if_pos hd]
    rw [← he] at hw
    refine kend_v S hr hlocks hS hw dX1_takeFailure_26
