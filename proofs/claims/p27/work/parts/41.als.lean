theorem kin_X4_raiseAndCloseAlarms_X4 : ∀ w ∈ wsX40, w ∈ wsX4_raiseAndCloseAlarms := by decide +kernel
theorem kin_X4_raiseAndCloseAlarms_X1 : ∀ w ∈ wsX10, w ∈ wsX4_raiseAndCloseAlarms := by decide +kernel
theorem kin_X4_raiseAndCloseAlarms_X0 : ∀ w ∈ wsX00, w ∈ wsX4_raiseAndCloseAlarms := by decide +kernel
set_option maxHeartbeats 4000000 in
set_option maxRecDepth 100000 in
theorem cc_als0 (ε : kEnv) (l : Launch) {A : Nat → Prop} {ad : Nat → Nat → Nat} {σ : kS} {H : Heap} {x0 : Nat} (hAb : ∀ q, A q → kHi ε q) (hw : kW ε A ad σ H) (hB : kB σ) (e0 : ad 0 0 = x0) (hA2 : ∀ q, H.size ≤ q → A q) (hfin : kAls σ 4 0 ≤ 51000) : kMv ε l yX4_raiseAndCloseAlarms wsX4_raiseAndCloseAlarms ({ frames := 8, cells := kTc (kAls σ 4 0) - kTc (σ 4 0), slots := kTs (kAls σ 4 0) - kTs (σ 4 0), locals := 228 }) [.ref x0] H A (kTc (kAls σ 4 0) - kTc (σ 4 0)) (kTs (kAls σ 4 0) - kTs (σ 4 0)) (fun H' => ∃ ad', ad' 0 0 = x0 ∧ kW ε A ad' (kAls σ) H') := by
  refine kof (cc := cX4_raiseAndCloseAlarms) (maxL := 3) (ret := none) (by decide) rfl (Nat.le_of_ble_eq_true rfl) ?_
  intro p e s m below meth c ls S hr hlocks hin hH hE hl
  have S : CallFix p m c cX4_raiseAndCloseAlarms 3 s _ wsX4_raiseAndCloseAlarms RX4 := S
  have hx := S.1
  have hb := S.2.1
  have hown : s.vm.findClass RX4 = some m.cls := S.2.2.2.1
  have hts := S.2.2.2.2
  have hK := hE.1
  have hS : va_S A s.heap H [] := by rw [hH]; exact va_S.rf
  have hnR := hB.nR
  have hnC := hB.nC
  have hnW := hB.nW
  have hnA := hB.nA
  have hmn := hB.min
  have hl : lv_has ls 3 [(0, .ref x0)] := hl
  refine lv_iconst (v := 0) hx hb dX4_raiseAndCloseAlarms_0 (by decide) ?_
  refine lv_istore_n (lv' := [(1, .int 0), (0, .ref x0)]) hx hb dX4_raiseAndCloseAlarms_1 rfl hl (by decide) rfl (fun ls hl => ?_)
  refine kr_room (c1 := kTc ((kFor (fun c τ => kAl τ c) 0 σ) 4 0) - kTc (σ 4 0)) (s1 := kTs ((kFor (fun c τ => kAl τ c) 0 σ) 4 0) - kTs (σ 4 0)) (Nat.sub_self _).symm (Nat.sub_self _).symm ?_
  suffices K : ∀ (n k : Nat) (ad : Nat → Nat → Nat) (H2 : Heap) (locs : List Loc) (ls : Array Slot), k + n = σ 2 0 → kW ε A ad ((kFor (fun c τ => kAl τ c) k σ)) H2 → ad 0 0 = x0 → (∀ q, H2.size ≤ q → A q) → kPin kLa σ (kFor (fun c τ => kAl τ c) k σ) → va_S A s.heap H2 locs → lv_has ls 3 [(1, .int (nI k)), (0, .ref x0)] → W p l e ({ frames := 8, cells := kTc (kAls σ 4 0) - kTc (σ 4 0), slots := kTs (kAls σ 4 0) - kTs (σ 4 0), locals := 228 }) s m [.ref x0].toArray below meth c H2 locs (kTc ((kFor (fun c τ => kAl τ c) k σ) 4 0) - kTc (σ 4 0)) (kTs ((kFor (fun c τ => kAl τ c) k σ) 4 0) - kTs (σ 4 0)) (MQ below (kQv (fun H' => ∃ ad', ad' 0 0 = x0 ∧ kW ε A ad' (kAls σ) H') A) [.ref x0].toArray s (kTc (kAls σ 4 0) - kTc (σ 4 0)) (kTs (kAls σ 4 0) - kTs (σ 4 0)) A) (F0 m 2 ls []) from K (σ 2 0) 0 _ _ _ _ (Nat.zero_add _) hw e0 hA2 (kPin.rf hB) hS (lv_sub hl [0, 1] rfl)
  clear hl hS hw e0 hA2
  intro n
  induction n with
  | zero =>
    intro k ad H2 locs ls hkn hw e0 hA2 hin hS hl
    have hkN : k = σ 2 0 := hkn
    clear hkn
    subst e0
    have hle : ((kFor (fun c τ => kAl τ c) k σ)) 4 0 ≤ kAls σ 4 0 := kAls_mono (by omega)
    obtain ⟨τ, τe⟩ : ∃ z : kS, z = ((kFor (fun c τ => kAl τ c) k σ)) := ⟨_, rfl⟩
    rw [← τe] at hw hin hle ⊢
    have hcl : kTc (τ 4 0) - kTc (σ 4 0) ≤ kTc (kAls σ 4 0) - kTc (σ 4 0) := Nat.sub_le_sub_right (kTc_mono hle) _
    have hsl : kTs (τ 4 0) - kTs (σ 4 0) ≤ kTs (kAls σ 4 0) - kTs (σ 4 0) := Nat.sub_le_sub_right (kTs_mono hle) _
    have hBt := hin.1
    have e1 : τ 1 0 = σ 1 0 := hin.2 1 0 (by decide)
    have e2 : τ 2 0 = σ 2 0 := hin.2 2 0 (by decide)
    have e3 : τ 3 0 = σ 3 0 := hin.2 3 0 (by decide)
    refine lv_iload_n hx hb dX4_raiseAndCloseAlarms_2 rfl (lv_at hl 0 rfl) ?_
    refine lv_aload_n hx hb dX4_raiseAndCloseAlarms_3 rfl (lv_at hl 1 rfl) ?_
    refine kr_get (T := TX4) (N := 7) hx hb hts hown hK (hw.lv 0 0 (rfl : (0 : Nat) = 0)) rfl kin_X4_raiseAndCloseAlarms_X4 1 (by decide) (by decide +kernel) rfl dX4_raiseAndCloseAlarms_4 ?_
    refine kgo_pi (v := nI (τ 2 0)) (kc_V (As := []) (rest := [.int (nI k)]) S hE hS hAb (kw_size l hw 1 (by decide)) (cwV 0 hts gX4_raiseAndCloseAlarms_Jx4a65c_size_8abf5 rfl rfl rfl (by decide +kernel) ⟨Nat.le_of_ble_eq_true rfl, Nat.le_of_ble_eq_true rfl⟩) (hw.lv 1 1 (by decide : (1 : Nat) < 4)) rfl rfl hl.1 rfl (Nat.le_of_ble_eq_true rfl) dX4_raiseAndCloseAlarms_7 ⟨hcl, hsl⟩) hS (fun locs hS => ?_)
    refine kr_top (y := nI (σ 2 0)) (by rw [e2]) ?_
    refine lv_icmp_ge (tgt := 93) hx hb dX4_raiseAndCloseAlarms_10 (by decide) (fun _ => ?_) (fun hc => absurd (by rw [hkN]; exact Int32.le_refl _) hc)
    have ef : τ = kAls σ := by rw [τe, hkN]; rfl
    rw [ef] at hw ⊢
    refine kend_v S hr hlocks hS ⟨ad, rfl, hw⟩ dX4_raiseAndCloseAlarms_93
  | succ n ih =>
    intro k ad H2 locs ls hkn hw e0 hA2 hin hS hl
    have hlt : k < σ 2 0 := by omega
    subst e0
    have hmon : kAl ((kFor (fun c τ => kAl τ c) k σ)) k 4 0 ≤ kAls σ 4 0 := kAls_mono (k := k + 1) hlt
    have hup : σ 4 0 ≤ ((kFor (fun c τ => kAl τ c) k σ)) 4 0 := kAls_mono (k := 0) (Nat.zero_le _)
    have hle : ((kFor (fun c τ => kAl τ c) k σ)) 4 0 ≤ kAls σ 4 0 := kAls_mono (by omega)
    obtain ⟨τ, τe⟩ : ∃ z : kS, z = ((kFor (fun c τ => kAl τ c) k σ)) := ⟨_, rfl⟩
    rw [← τe] at hw hin hle ⊢
    have hcl : kTc (τ 4 0) - kTc (σ 4 0) ≤ kTc (kAls σ 4 0) - kTc (σ 4 0) := Nat.sub_le_sub_right (kTc_mono hle) _
    have hsl : kTs (τ 4 0) - kTs (σ 4 0) ≤ kTs (kAls σ 4 0) - kTs (σ 4 0) := Nat.sub_le_sub_right (kTs_mono hle) _
    have hBt := hin.1
    have e1 : τ 1 0 = σ 1 0 := hin.2 1 0 (by decide)
    have e2 : τ 2 0 = σ 2 0 := hin.2 2 0 (by decide)
    have e3 : τ 3 0 = σ 3 0 := hin.2 3 0 (by decide)
    rw [← τe] at hmon hup
    have hin2 := kAl_in hin hlt (Nat.le_trans hmon hfin)
    refine lv_iload_n hx hb dX4_raiseAndCloseAlarms_2 rfl (lv_at hl 0 rfl) ?_
    refine lv_aload_n hx hb dX4_raiseAndCloseAlarms_3 rfl (lv_at hl 1 rfl) ?_
    refine kr_get (T := TX4) (N := 7) hx hb hts hown hK (hw.lv 0 0 (rfl : (0 : Nat) = 0)) rfl kin_X4_raiseAndCloseAlarms_X4 1 (by decide) (by decide +kernel) rfl dX4_raiseAndCloseAlarms_4 ?_
    refine kgo_pi (v := nI (τ 2 0)) (kc_V (As := []) (rest := [.int (nI k)]) S hE hS hAb (kw_size l hw 1 (by decide)) (cwV 0 hts gX4_raiseAndCloseAlarms_Jx4a65c_size_8abf5 rfl rfl rfl (by decide +kernel) ⟨Nat.le_of_ble_eq_true rfl, Nat.le_of_ble_eq_true rfl⟩) (hw.lv 1 1 (by decide : (1 : Nat) < 4)) rfl rfl hl.1 rfl (Nat.le_of_ble_eq_true rfl) dX4_raiseAndCloseAlarms_7 ⟨hcl, hsl⟩) hS (fun locs hS => ?_)
    refine kr_top (y := nI (σ 2 0)) (by rw [e2]) ?_
    refine lv_icmp_ge (tgt := 93) hx hb dX4_raiseAndCloseAlarms_10 (by decide) (fun hc => absurd hc (nI_ge hlt (by omega))) (fun _ => ?_)
    have hk : k < τ 2 0 := by omega
    have hck := hBt.ck k hk
    refine lv_aload_n hx hb dX4_raiseAndCloseAlarms_13 rfl (lv_at hl 1 rfl) ?_
    refine kr_get (T := TX4) (N := 7) hx hb hts hown hK (hw.lv 0 0 (rfl : (0 : Nat) = 0)) rfl kin_X4_raiseAndCloseAlarms_X4 1 (by decide) (by decide +kernel) rfl dX4_raiseAndCloseAlarms_14 ?_
    refine lv_iload_n hx hb dX4_raiseAndCloseAlarms_17 rfl (lv_at hl 0 rfl) ?_
    refine kgo_pr (v := ad 4 k) (kc_V (As := [.int (nI k)]) (rest := []) S hE hS hAb (kw_get l hw hBt 1 (by decide) (j := k) (x := ad 4 k) hk rfl) (cwV 1 hts gX4_raiseAndCloseAlarms_Jx4a65c_get_915e3 rfl rfl rfl (by decide +kernel) ⟨Nat.le_of_ble_eq_true rfl, Nat.le_of_ble_eq_true rfl⟩) (hw.lv 1 1 (by decide : (1 : Nat) < 4)) rfl rfl hl.1 rfl (Nat.le_of_ble_eq_true rfl) dX4_raiseAndCloseAlarms_18 ⟨hcl, hsl⟩) hS (fun locs hS => ?_)
    refine kr_cast (T := TX1) (N := 13) hx hb hts hown hK (hw.lv 4 k hk) rfl (by decide +kernel) dX4_raiseAndCloseAlarms_21 ?_
    refine lv_astore_n (lv' := [(2, .ref (ad 4 k)), (1, .int (nI k)), (0, .ref (ad 0 0))]) hx hb dX4_raiseAndCloseAlarms_24 rfl hl (by decide) rfl (fun ls hl => ?_)
    refine lv_aload_n hx hb dX4_raiseAndCloseAlarms_25 rfl (lv_at hl 0 rfl) ?_
    refine kr_get (T := TX1) (N := 13) hx hb hts hown hK (hw.lv 4 k hk) rfl kin_X4_raiseAndCloseAlarms_X1 9 (by decide) (by decide +kernel) rfl dX4_raiseAndCloseAlarms_26 ?_
    refine lv_iconst (v := 2) hx hb dX4_raiseAndCloseAlarms_29 (by decide) ?_
    refine lv_icmp_ne (tgt := 56) hx hb dX4_raiseAndCloseAlarms_30 (by decide) (fun hc => ?_) (fun hc => ?_)
    · have hnr : ¬ (τ 24 k = 2 ∧ τ 25 k = 0 ∧ kMnt τ k (τ 3 0) = false) := fun h => hc (by rw [h.1]; rfl)
      refine lv_aload_n hx hb dX4_raiseAndCloseAlarms_56 rfl (lv_at hl 0 rfl) ?_
      refine kr_get (T := TX1) (N := 13) hx hb hts hown hK (hw.lv 4 k hk) rfl kin_X4_raiseAndCloseAlarms_X1 9 (by decide) (by decide +kernel) rfl dX4_raiseAndCloseAlarms_57 ?_
      refine lv_iconst (v := 1) hx hb dX4_raiseAndCloseAlarms_60 (by decide) ?_
      refine lv_icmp_ne (tgt := 87) hx hb dX4_raiseAndCloseAlarms_61 (by decide) (fun hd => ?_) (fun hd => ?_)
      · have he : kAl τ k = τ := by unfold kAl; rw [if_neg hnr, if_neg (fun h => hd (by rw [h.1]; rfl))]
        rw [← he] at hw
        refine kr_room (c1 := kTc (kAl τ k 4 0) - kTc (σ 4 0)) (s1 := kTs (kAl τ k 4 0) - kTs (σ 4 0)) (by rw [he]) (by rw [he]) ?_
        refine lv_iinc (v := nI (k + 1)) (lv' := [(1, .int (nI (k + 1))), (2, .ref (ad 4 k)), (0, .ref (ad 0 0))]) hx hb dX4_raiseAndCloseAlarms_87 hl (k := 1) rfl (nI_1 k) (by decide) rfl (fun ls hl => ?_)
        refine lv_goto (tgt := 2) hx hb dX4_raiseAndCloseAlarms_90 (by decide) ?_
        subst τe
        exact ih (k + 1) _ _ _ _ (by omega) hw rfl (hA2) (hin2) hS (lv_sub hl [0, 2] rfl)
      · have h1 : τ 24 k = 1 := (nI_eq (by omega) (by decide)).mp hd
        refine lv_aload_n hx hb dX4_raiseAndCloseAlarms_64 rfl (lv_at hl 0 rfl) ?_
        refine kr_get (T := TX1) (N := 13) hx hb hts hown hK (hw.lv 4 k hk) rfl kin_X4_raiseAndCloseAlarms_X1 10 (by decide) (by decide +kernel) rfl dX4_raiseAndCloseAlarms_65 ?_
        refine kr_ifnull (tgt := 87) hx hb dX4_raiseAndCloseAlarms_68 (by decide) (fun hf => ?_) (fun q9 hf => ?_)
        · have he : kAl τ k = τ := by unfold kAl; rw [if_neg hnr, if_neg (fun h => h.2 (kop_none.mp hf))]
          rw [← he] at hw
          refine kr_room (c1 := kTc (kAl τ k 4 0) - kTc (σ 4 0)) (s1 := kTs (kAl τ k 4 0) - kTs (σ 4 0)) (by rw [he]) (by rw [he]) ?_
          refine lv_iinc (v := nI (k + 1)) (lv' := [(1, .int (nI (k + 1))), (2, .ref (ad 4 k)), (0, .ref (ad 0 0))]) hx hb dX4_raiseAndCloseAlarms_87 hl (k := 1) rfl (nI_1 k) (by decide) rfl (fun ls hl => ?_)
          refine lv_goto (tgt := 2) hx hb dX4_raiseAndCloseAlarms_90 (by decide) ?_
          subst τe
          exact ih (k + 1) _ _ _ _ (by omega) hw rfl (hA2) (hin2) hS (lv_sub hl [0, 2] rfl)
        · have h25 : τ 25 k ≠ 0 := fun h => by rw [kop_none.mpr h] at hf; cases hf
          have hpl : τ 25 k - 1 < τ 4 0 := by omega
          have hm9 := hBt.min
          refine lv_aload_n hx hb dX4_raiseAndCloseAlarms_71 rfl (lv_at hl 0 rfl) ?_
          refine kr_get (T := TX1) (N := 13) hx hb hts hown hK (hw.lv 4 k hk) rfl kin_X4_raiseAndCloseAlarms_X1 10 (by decide) (by decide +kernel) rfl dX4_raiseAndCloseAlarms_72 ?_
          refine kr_topV (y := .ref (ad 9 ((τ 25 k - 1)))) (congrArg va_rf (kop_some h25)) ?_
          refine lv_aload_n hx hb dX4_raiseAndCloseAlarms_75 rfl (lv_at hl 2 rfl) ?_
          refine kr_get (T := TX4) (N := 7) hx hb hts hown hK (hw.lv 0 0 (rfl : (0 : Nat) = 0)) rfl kin_X4_raiseAndCloseAlarms_X4 6 (by decide) (by decide +kernel) rfl dX4_raiseAndCloseAlarms_76 ?_
          refine kr_topV (y := .int ((mI (τ 0 0 + 1)))) (rfl) ?_
          refine kr_put (T := TX0) (N := 3) (v := .int (mI (τ 0 0 + 1))) (ty := .int) hx hb hts hown hK hS (hw.lv 9 ((τ 25 k - 1)) hpl) (hw.1 9 ((τ 25 k - 1)) hpl).2 rfl kin_X4_raiseAndCloseAlarms_X0 tyX0 tyX0_ok nmX0 2 (by decide) "Probeweb$Alarm" (hts (.fieldLink RX4 158 "Probeweb$Alarm" "closed" "I") (by decide +kernel)) (fun _ h => h) rfl (by decide +kernel) rfl rfl (Nat.le_of_ble_eq_true rfl) dX4_raiseAndCloseAlarms_79 (fun H1 locs hU ho hS => ?_)
          have hw := kw_p52 (v := τ 0 0 + 1) hw hpl hU ho
          have hA2 : ∀ q, H1.size ≤ q → A q := fun q h => hA2 q (by rw [← hU.1]; exact h)
          clear hU ho
          refine lv_aload_n hx hb dX4_raiseAndCloseAlarms_82 rfl (lv_at hl 0 rfl) ?_
          refine lv_null hx hb dX4_raiseAndCloseAlarms_83 ?_
          refine kr_topV (y := va_rf (kop ad 0)) (rfl) ?_
          refine kr_put (T := TX1) (N := 13) (v := va_rf (kop ad 0)) (ty := (.object "Probeweb$Alarm")) hx hb hts hown hK hS (hw.lv 4 k (show k < ku τ 52 (τ 25 k - 1) (τ 0 0 + 1) 2 0 from hk)) (hw.1 4 k (show k < ku τ 52 (τ 25 k - 1) (τ 0 0 + 1) 2 0 from hk)).2 rfl kin_X4_raiseAndCloseAlarms_X1 tyX1 tyX1_ok nmX1 10 (by decide) "Probeweb$Check" (hts (.fieldLink RX4 143 "Probeweb$Check" "openAlarm" "LProbeweb$Alarm;") (by decide +kernel)) (fun _ h => h) rfl (by decide +kernel) (kop_nar _ _) (kop_fit _ _) (Nat.le_of_ble_eq_true rfl) dX4_raiseAndCloseAlarms_84 (fun H1 locs hU ho hS => ?_)
          have hw := kw_p25 (v := 0) hw (show k < ku τ 52 (τ 25 k - 1) (τ 0 0 + 1) 2 0 from hk) hU ho
          have hA2 : ∀ q, H1.size ≤ q → A q := fun q h => hA2 q (by rw [← hU.1]; exact h)
          clear hU ho
          have he : kAl τ k = kClose τ k := by unfold kAl; rw [if_neg hnr, if_pos ⟨h1, h25⟩]
          have hw : kW ε A ad (kAl τ k) H1 := by rw [he]; exact hw
          have e4 : kAl τ k 4 0 = τ 4 0 := by rw [he]; simp [kClose, ku]
          refine kr_room (c1 := kTc (kAl τ k 4 0) - kTc (σ 4 0)) (s1 := kTs (kAl τ k 4 0) - kTs (σ 4 0)) (by rw [e4]) (by rw [e4]) ?_
          refine lv_iinc (v := nI (k + 1)) (lv' := [(1, .int (nI (k + 1))), (2, .ref (ad 4 k)), (0, .ref (ad 0 0))]) hx hb dX4_raiseAndCloseAlarms_87 hl (k := 1) rfl (nI_1 k) (by decide) rfl (fun ls hl => ?_)
          refine lv_goto (tgt := 2) hx hb dX4_raiseAndCloseAlarms_90 (by decide) ?_
          subst τe
          exact ih (k + 1) _ _ _ _ (by omega) hw rfl (hA2) (hin2) hS (lv_sub hl [0, 2] rfl)
    · have h2 : τ 24 k = 2 := (nI_eq (by omega) (by decide)).mp hc
      refine lv_aload_n hx hb dX4_raiseAndCloseAlarms_33 rfl (lv_at hl 0 rfl) ?_
      refine kr_get (T := TX1) (N := 13) hx hb hts hown hK (hw.lv 4 k hk) rfl kin_X4_raiseAndCloseAlarms_X1 10 (by decide) (by decide +kernel) rfl dX4_raiseAndCloseAlarms_34 ?_
      refine kr_ifnonnull (tgt := 56) hx hb dX4_raiseAndCloseAlarms_37 (by decide) (fun q9 hf => ?_) (fun hf => ?_)
      · have hnr : ¬ (τ 24 k = 2 ∧ τ 25 k = 0 ∧ kMnt τ k (τ 3 0) = false) := fun h => by rw [kop_none.mpr h.2.1] at hf; cases hf
        refine lv_aload_n hx hb dX4_raiseAndCloseAlarms_56 rfl (lv_at hl 0 rfl) ?_
        refine kr_get (T := TX1) (N := 13) hx hb hts hown hK (hw.lv 4 k hk) rfl kin_X4_raiseAndCloseAlarms_X1 9 (by decide) (by decide +kernel) rfl dX4_raiseAndCloseAlarms_57 ?_
        refine lv_iconst (v := 1) hx hb dX4_raiseAndCloseAlarms_60 (by decide) ?_
        refine lv_icmp_ne (tgt := 87) hx hb dX4_raiseAndCloseAlarms_61 (by decide) (fun hd => ?_) (fun hd => ?_)
        · have he : kAl τ k = τ := by unfold kAl; rw [if_neg hnr, if_neg (fun h => hd (by rw [h.1]; rfl))]
          rw [← he] at hw
          refine kr_room (c1 := kTc (kAl τ k 4 0) - kTc (σ 4 0)) (s1 := kTs (kAl τ k 4 0) - kTs (σ 4 0)) (by rw [he]) (by rw [he]) ?_
          refine lv_iinc (v := nI (k + 1)) (lv' := [(1, .int (nI (k + 1))), (2, .ref (ad 4 k)), (0, .ref (ad 0 0))]) hx hb dX4_raiseAndCloseAlarms_87 hl (k := 1) rfl (nI_1 k) (by decide) rfl (fun ls hl => ?_)
          refine lv_goto (tgt := 2) hx hb dX4_raiseAndCloseAlarms_90 (by decide) ?_
          subst τe
          exact ih (k + 1) _ _ _ _ (by omega) hw rfl (hA2) (hin2) hS (lv_sub hl [0, 2] rfl)
        · have h1 : τ 24 k = 1 := (nI_eq (by omega) (by decide)).mp hd
          refine lv_aload_n hx hb dX4_raiseAndCloseAlarms_64 rfl (lv_at hl 0 rfl) ?_
          refine kr_get (T := TX1) (N := 13) hx hb hts hown hK (hw.lv 4 k hk) rfl kin_X4_raiseAndCloseAlarms_X1 10 (by decide) (by decide +kernel) rfl dX4_raiseAndCloseAlarms_65 ?_
          refine kr_ifnull (tgt := 87) hx hb dX4_raiseAndCloseAlarms_68 (by decide) (fun hf => ?_) (fun q9 hf => ?_)
          · have he : kAl τ k = τ := by unfold kAl; rw [if_neg hnr, if_neg (fun h => h.2 (kop_none.mp hf))]
            rw [← he] at hw
            refine kr_room (c1 := kTc (kAl τ k 4 0) - kTc (σ 4 0)) (s1 := kTs (kAl τ k 4 0) - kTs (σ 4 0)) (by rw [he]) (by rw [he]) ?_
            refine lv_iinc (v := nI (k + 1)) (lv' := [(1, .int (nI (k + 1))), (2, .ref (ad 4 k)), (0, .ref (ad 0 0))]) hx hb dX4_raiseAndCloseAlarms_87 hl (k := 1) rfl (nI_1 k) (by decide) rfl (fun ls hl => ?_)
            refine lv_goto (tgt := 2) hx hb dX4_raiseAndCloseAlarms_90 (by decide) ?_
            subst τe
            exact ih (k + 1) _ _ _ _ (by omega) hw rfl (hA2) (hin2) hS (lv_sub hl [0, 2] rfl)
          · have h25 : τ 25 k ≠ 0 := fun h => by rw [kop_none.mpr h] at hf; cases hf
            have hpl : τ 25 k - 1 < τ 4 0 := by omega
            have hm9 := hBt.min
            refine lv_aload_n hx hb dX4_raiseAndCloseAlarms_71 rfl (lv_at hl 0 rfl) ?_
            refine kr_get (T := TX1) (N := 13) hx hb hts hown hK (hw.lv 4 k hk) rfl kin_X4_raiseAndCloseAlarms_X1 10 (by decide) (by decide +kernel) rfl dX4_raiseAndCloseAlarms_72 ?_
            refine kr_topV (y := .ref (ad 9 ((τ 25 k - 1)))) (congrArg va_rf (kop_some h25)) ?_
            refine lv_aload_n hx hb dX4_raiseAndCloseAlarms_75 rfl (lv_at hl 2 rfl) ?_
            refine kr_get (T := TX4) (N := 7) hx hb hts hown hK (hw.lv 0 0 (rfl : (0 : Nat) = 0)) rfl kin_X4_raiseAndCloseAlarms_X4 6 (by decide) (by decide +kernel) rfl dX4_raiseAndCloseAlarms_76 ?_
            refine kr_topV (y := .int ((mI (τ 0 0 + 1)))) (rfl) ?_
            refine kr_put (T := TX0) (N := 3) (v := .int (mI (τ 0 0 + 1))) (ty := .int) hx hb hts hown hK hS (hw.lv 9 ((τ 25 k - 1)) hpl) (hw.1 9 ((τ 25 k - 1)) hpl).2 rfl kin_X4_raiseAndCloseAlarms_X0 tyX0 tyX0_ok nmX0 2 (by decide) "Probeweb$Alarm" (hts (.fieldLink RX4 158 "Probeweb$Alarm" "closed" "I") (by decide +kernel)) (fun _ h => h) rfl (by decide +kernel) rfl rfl (Nat.le_of_ble_eq_true rfl) dX4_raiseAndCloseAlarms_79 (fun H1 locs hU ho hS => ?_)
            have hw := kw_p52 (v := τ 0 0 + 1) hw hpl hU ho
            have hA2 : ∀ q, H1.size ≤ q → A q := fun q h => hA2 q (by rw [← hU.1]; exact h)
            clear hU ho
            refine lv_aload_n hx hb dX4_raiseAndCloseAlarms_82 rfl (lv_at hl 0 rfl) ?_
            refine lv_null hx hb dX4_raiseAndCloseAlarms_83 ?_
            refine kr_topV (y := va_rf (kop ad 0)) (rfl) ?_
            refine kr_put (T := TX1) (N := 13) (v := va_rf (kop ad 0)) (ty := (.object "Probeweb$Alarm")) hx hb hts hown hK hS (hw.lv 4 k (show k < ku τ 52 (τ 25 k - 1) (τ 0 0 + 1) 2 0 from hk)) (hw.1 4 k (show k < ku τ 52 (τ 25 k - 1) (τ 0 0 + 1) 2 0 from hk)).2 rfl kin_X4_raiseAndCloseAlarms_X1 tyX1 tyX1_ok nmX1 10 (by decide) "Probeweb$Check" (hts (.fieldLink RX4 143 "Probeweb$Check" "openAlarm" "LProbeweb$Alarm;") (by decide +kernel)) (fun _ h => h) rfl (by decide +kernel) (kop_nar _ _) (kop_fit _ _) (Nat.le_of_ble_eq_true rfl) dX4_raiseAndCloseAlarms_84 (fun H1 locs hU ho hS => ?_)
            have hw := kw_p25 (v := 0) hw (show k < ku τ 52 (τ 25 k - 1) (τ 0 0 + 1) 2 0 from hk) hU ho
            have hA2 : ∀ q, H1.size ≤ q → A q := fun q h => hA2 q (by rw [← hU.1]; exact h)
            clear hU ho
            have he : kAl τ k = kClose τ k := by unfold kAl; rw [if_neg hnr, if_pos ⟨h1, h25⟩]
            have hw : kW ε A ad (kAl τ k) H1 := by rw [he]; exact hw
            have e4 : kAl τ k 4 0 = τ 4 0 := by rw [he]; simp [kClose, ku]
            refine kr_room (c1 := kTc (kAl τ k 4 0) - kTc (σ 4 0)) (s1 := kTs (kAl τ k 4 0) - kTs (σ 4 0)) (by rw [e4]) (by rw [e4]) ?_
            refine lv_iinc (v := nI (k + 1)) (lv' := [(1, .int (nI (k + 1))), (2, .ref (ad 4 k)), (0, .ref (ad 0 0))]) hx hb dX4_raiseAndCloseAlarms_87 hl (k := 1) rfl (nI_1 k) (by decide) rfl (fun ls hl => ?_)
            refine lv_goto (tgt := 2) hx hb dX4_raiseAndCloseAlarms_90 (by decide) ?_
            subst τe
            exact ih (k + 1) _ _ _ _ (by omega) hw rfl (hA2) (hin2) hS (lv_sub hl [0, 2] rfl)
      · have h25 : τ 25 k = 0 := kop_none.mp hf
        refine lv_aload_n hx hb dX4_raiseAndCloseAlarms_40 rfl (lv_at hl 2 rfl) ?_
        refine lv_aload_n hx hb dX4_raiseAndCloseAlarms_41 rfl (lv_at hl 0 rfl) ?_
        refine kgo_pi (v := bI (kMnt τ k (τ 3 0))) (kc_V (As := [.ref (ad 4 k)]) (rest := []) S hE hS hAb (cc_mnt ε l hw hBt hk) (cwV 1 hts gX4_raiseAndCloseAlarms_X4_isMaintained rfl rfl rfl (by decide +kernel) ⟨Nat.le_of_ble_eq_true rfl, Nat.le_of_ble_eq_true rfl⟩) (hw.lv 0 0 (rfl : (0 : Nat) = 0)) rfl rfl hl.1 rfl (Nat.le_of_ble_eq_true rfl) dX4_raiseAndCloseAlarms_42 ⟨hcl, hsl⟩) hS (fun locs hS => ?_)
        refine lv_if_ne (tgt := 56) hx hb dX4_raiseAndCloseAlarms_45 (by decide) (fun hg => ?_) (fun hg => ?_)
        · have hnr : ¬ (τ 24 k = 2 ∧ τ 25 k = 0 ∧ kMnt τ k (τ 3 0) = false) := fun h => by rw [h.2.2] at hg; exact hg rfl
          refine lv_aload_n hx hb dX4_raiseAndCloseAlarms_56 rfl (lv_at hl 0 rfl) ?_
          refine kr_get (T := TX1) (N := 13) hx hb hts hown hK (hw.lv 4 k hk) rfl kin_X4_raiseAndCloseAlarms_X1 9 (by decide) (by decide +kernel) rfl dX4_raiseAndCloseAlarms_57 ?_
          refine lv_iconst (v := 1) hx hb dX4_raiseAndCloseAlarms_60 (by decide) ?_
          refine lv_icmp_ne (tgt := 87) hx hb dX4_raiseAndCloseAlarms_61 (by decide) (fun hd => ?_) (fun hd => ?_)
          · have he : kAl τ k = τ := by unfold kAl; rw [if_neg hnr, if_neg (fun h => hd (by rw [h.1]; rfl))]
            rw [← he] at hw
            refine kr_room (c1 := kTc (kAl τ k 4 0) - kTc (σ 4 0)) (s1 := kTs (kAl τ k 4 0) - kTs (σ 4 0)) (by rw [he]) (by rw [he]) ?_
            refine lv_iinc (v := nI (k + 1)) (lv' := [(1, .int (nI (k + 1))), (2, .ref (ad 4 k)), (0, .ref (ad 0 0))]) hx hb dX4_raiseAndCloseAlarms_87 hl (k := 1) rfl (nI_1 k) (by decide) rfl (fun ls hl => ?_)
            refine lv_goto (tgt := 2) hx hb dX4_raiseAndCloseAlarms_90 (by decide) ?_
            subst τe
            exact ih (k + 1) _ _ _ _ (by omega) hw rfl (hA2) (hin2) hS (lv_sub hl [0, 2] rfl)
          · have h1 : τ 24 k = 1 := (nI_eq (by omega) (by decide)).mp hd
            refine lv_aload_n hx hb dX4_raiseAndCloseAlarms_64 rfl (lv_at hl 0 rfl) ?_
            refine kr_get (T := TX1) (N := 13) hx hb hts hown hK (hw.lv 4 k hk) rfl kin_X4_raiseAndCloseAlarms_X1 10 (by decide) (by decide +kernel) rfl dX4_raiseAndCloseAlarms_65 ?_
            refine kr_ifnull (tgt := 87) hx hb dX4_raiseAndCloseAlarms_68 (by decide) (fun hf => ?_) (fun q9 hf => ?_)
            · have he : kAl τ k = τ := by unfold kAl; rw [if_neg hnr, if_neg (fun h => h.2 (kop_none.mp hf))]
              rw [← he] at hw
              refine kr_room (c1 := kTc (kAl τ k 4 0) - kTc (σ 4 0)) (s1 := kTs (kAl τ k 4 0) - kTs (σ 4 0)) (by rw [he]) (by rw [he]) ?_
              refine lv_iinc (v := nI (k + 1)) (lv' := [(1, .int (nI (k + 1))), (2, .ref (ad 4 k)), (0, .ref (ad 0 0))]) hx hb dX4_raiseAndCloseAlarms_87 hl (k := 1) rfl (nI_1 k) (by decide) rfl (fun ls hl => ?_)
              refine lv_goto (tgt := 2) hx hb dX4_raiseAndCloseAlarms_90 (by decide) ?_
              subst τe
              exact ih (k + 1) _ _ _ _ (by omega) hw rfl (hA2) (hin2) hS (lv_sub hl [0, 2] rfl)
            · have h25 : τ 25 k ≠ 0 := fun h => by rw [kop_none.mpr h] at hf; cases hf
              have hpl : τ 25 k - 1 < τ 4 0 := by omega
              have hm9 := hBt.min
              refine lv_aload_n hx hb dX4_raiseAndCloseAlarms_71 rfl (lv_at hl 0 rfl) ?_
              refine kr_get (T := TX1) (N := 13) hx hb hts hown hK (hw.lv 4 k hk) rfl kin_X4_raiseAndCloseAlarms_X1 10 (by decide) (by decide +kernel) rfl dX4_raiseAndCloseAlarms_72 ?_
              refine kr_topV (y := .ref (ad 9 ((τ 25 k - 1)))) (congrArg va_rf (kop_some h25)) ?_
              refine lv_aload_n hx hb dX4_raiseAndCloseAlarms_75 rfl (lv_at hl 2 rfl) ?_
              refine kr_get (T := TX4) (N := 7) hx hb hts hown hK (hw.lv 0 0 (rfl : (0 : Nat) = 0)) rfl kin_X4_raiseAndCloseAlarms_X4 6 (by decide) (by decide +kernel) rfl dX4_raiseAndCloseAlarms_76 ?_
              refine kr_topV (y := .int ((mI (τ 0 0 + 1)))) (rfl) ?_
              refine kr_put (T := TX0) (N := 3) (v := .int (mI (τ 0 0 + 1))) (ty := .int) hx hb hts hown hK hS (hw.lv 9 ((τ 25 k - 1)) hpl) (hw.1 9 ((τ 25 k - 1)) hpl).2 rfl kin_X4_raiseAndCloseAlarms_X0 tyX0 tyX0_ok nmX0 2 (by decide) "Probeweb$Alarm" (hts (.fieldLink RX4 158 "Probeweb$Alarm" "closed" "I") (by decide +kernel)) (fun _ h => h) rfl (by decide +kernel) rfl rfl (Nat.le_of_ble_eq_true rfl) dX4_raiseAndCloseAlarms_79 (fun H1 locs hU ho hS => ?_)
              have hw := kw_p52 (v := τ 0 0 + 1) hw hpl hU ho
              have hA2 : ∀ q, H1.size ≤ q → A q := fun q h => hA2 q (by rw [← hU.1]; exact h)
              clear hU ho
              refine lv_aload_n hx hb dX4_raiseAndCloseAlarms_82 rfl (lv_at hl 0 rfl) ?_
              refine lv_null hx hb dX4_raiseAndCloseAlarms_83 ?_
              refine kr_topV (y := va_rf (kop ad 0)) (rfl) ?_
              refine kr_put (T := TX1) (N := 13) (v := va_rf (kop ad 0)) (ty := (.object "Probeweb$Alarm")) hx hb hts hown hK hS (hw.lv 4 k (show k < ku τ 52 (τ 25 k - 1) (τ 0 0 + 1) 2 0 from hk)) (hw.1 4 k (show k < ku τ 52 (τ 25 k - 1) (τ 0 0 + 1) 2 0 from hk)).2 rfl kin_X4_raiseAndCloseAlarms_X1 tyX1 tyX1_ok nmX1 10 (by decide) "Probeweb$Check" (hts (.fieldLink RX4 143 "Probeweb$Check" "openAlarm" "LProbeweb$Alarm;") (by decide +kernel)) (fun _ h => h) rfl (by decide +kernel) (kop_nar _ _) (kop_fit _ _) (Nat.le_of_ble_eq_true rfl) dX4_raiseAndCloseAlarms_84 (fun H1 locs hU ho hS => ?_)
              have hw := kw_p25 (v := 0) hw (show k < ku τ 52 (τ 25 k - 1) (τ 0 0 + 1) 2 0 from hk) hU ho
              have hA2 : ∀ q, H1.size ≤ q → A q := fun q h => hA2 q (by rw [← hU.1]; exact h)
              clear hU ho
              have he : kAl τ k = kClose τ k := by unfold kAl; rw [if_neg hnr, if_pos ⟨h1, h25⟩]
              have hw : kW ε A ad (kAl τ k) H1 := by rw [he]; exact hw
              have e4 : kAl τ k 4 0 = τ 4 0 := by rw [he]; simp [kClose, ku]
              refine kr_room (c1 := kTc (kAl τ k 4 0) - kTc (σ 4 0)) (s1 := kTs (kAl τ k 4 0) - kTs (σ 4 0)) (by rw [e4]) (by rw [e4]) ?_
              refine lv_iinc (v := nI (k + 1)) (lv' := [(1, .int (nI (k + 1))), (2, .ref (ad 4 k)), (0, .ref (ad 0 0))]) hx hb dX4_raiseAndCloseAlarms_87 hl (k := 1) rfl (nI_1 k) (by decide) rfl (fun ls hl => ?_)
              refine lv_goto (tgt := 2) hx hb dX4_raiseAndCloseAlarms_90 (by decide) ?_
              subst τe
              exact ih (k + 1) _ _ _ _ (by omega) hw rfl (hA2) (hin2) hS (lv_sub hl [0, 2] rfl)
        · have h3 : kMnt τ k (τ 3 0) = false := bI_eq0.mp hg
          have he : kAl τ k = kRaise τ k := by unfold kAl; rw [if_pos ⟨h2, h25, h3⟩]
          have e4 : kAl τ k 4 0 = τ 4 0 + 1 := by rw [he]; simp [kRaise, ku]
          have hT1 := kTc_mono hup
          have hT2 := kTs_mono hup
          have hT3 := kTc_mono hmon
          have hT4 := kTs_mono hmon
          have hT5 : kTc (kAl τ k 4 0) = kTc (τ 4 0) + (1 + kgc (τ 4 0)) := by rw [e4]; rfl
          have hT6 : kTs (kAl τ k 4 0) = kTs (τ 4 0) + (3 + kgs (τ 4 0)) := by rw [e4]; rfl
          refine lv_aload_n hx hb dX4_raiseAndCloseAlarms_48 rfl (lv_at hl 2 rfl) ?_
          refine lv_aload_n hx hb dX4_raiseAndCloseAlarms_49 rfl (lv_at hl 0 rfl) ?_
          refine kgo_v (kc_V (As := [.ref (ad 4 k)]) (rest := []) S hE hS hAb (cc_raise ε l hAb hw hBt hk (by omega) hA2) (cwV 1 hts gX4_raiseAndCloseAlarms_X4_raiseAlarm rfl rfl rfl (by decide +kernel) ⟨Nat.le_of_ble_eq_true rfl, Nat.le_of_ble_eq_true rfl⟩) (hw.lv 0 0 (rfl : (0 : Nat) = 0)) rfl rfl hl.1 rfl (Nat.le_of_ble_eq_true rfl) dX4_raiseAndCloseAlarms_50 ⟨by show kTc (τ 4 0) - kTc (σ 4 0) + (1 + kgc (τ 4 0)) ≤ kTc (kAls σ 4 0) - kTc (σ 4 0); omega, by show kTs (τ 4 0) - kTs (σ 4 0) + (3 + kgs (τ 4 0)) ≤ kTs (kAls σ 4 0) - kTs (σ 4 0); omega⟩) hS (fun _ h => h) (fun H1 locs hp hz hq hS => ?_)
          obtain ⟨ad', h00, hw⟩ := hp
          rw [← he] at hw
          refine kr_room (c1 := kTc (kAl τ k 4 0) - kTc (σ 4 0)) (s1 := kTs (kAl τ k 4 0) - kTs (σ 4 0)) (by omega) (by omega) ?_
          refine lv_goto (tgt := 87) hx hb dX4_raiseAndCloseAlarms_53 (by decide) ?_
          refine lv_iinc (v := nI (k + 1)) (lv' := [(1, .int (nI (k + 1))), (2, .ref (ad 4 k)), (0, .ref (ad 0 0))]) hx hb dX4_raiseAndCloseAlarms_87 hl (k := 1) rfl (nI_1 k) (by decide) rfl (fun ls hl => ?_)
          refine lv_goto (tgt := 2) hx hb dX4_raiseAndCloseAlarms_90 (by decide) ?_
          subst τe
          exact ih (k + 1) _ _ _ _ (by omega) hw h00 (fun q h => hA2 q (by omega)) (hin2) hS (lv_sub hl [0, 2] rfl)
