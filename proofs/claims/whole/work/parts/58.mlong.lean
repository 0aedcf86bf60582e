/-! ===== the reference's longer public methods ===== -/
theorem mPass1_up (τ : kS) : τ 34 0 ≤ mPass1 τ 34 0 := by
  have key : ∀ (f : Nat → kS → kS) (hf : ∀ i τ, f i τ 34 0 = τ 34 0) (n : Nat) (τ : kS), kFor f n τ 34 0 = τ 34 0 := by
    intro f hf n τ
    induction n with
    | zero => rfl
    | succ n ih => exact (hf n _).trans ih
  have k1 : mPb (mPa τ) 34 0 = mPa τ 34 0 := key _ (fun i ρ => ku_f _ _ _ _ (by decide)) _ _
  have k2 : mPa τ 34 0 = τ 34 0 := (key mP1 (fun i ρ => by
    unfold mP1
    split
    · exact mPrb_fr ρ _ _ 34 0 (by decide)
    · rfl) _ _).trans (ku_f _ _ _ _ (by decide))
  rw [← k2, ← k1]
  exact mPc_mono (k := 0) (Nat.zero_le _)
theorem mPass_mono {τ : kS} {j t : Nat} (h : j ≤ t) : mPass j τ 34 0 ≤ mPass t τ 34 0 := by
  induction t with
  | zero => rw [Nat.le_zero.mp h]; exact Nat.le_refl _
  | succ t ih =>
    rcases Nat.lt_or_ge j (t + 1) with h1 | h1
    · exact Nat.le_trans (ih (by omega)) (mPass1_up _)
    · rw [show j = t + 1 by omega]; exact Nat.le_refl _
theorem mPass_in {τ : kS} (h : mB τ) : ∀ t, τ 30 0 + t ≤ 102400 → mPass t τ 34 0 ≤ 51000 → mB (mPass t τ) ∧ mPass t τ 30 0 = τ 30 0 + t ∧ mPass t τ 31 0 = τ 31 0 ∧ mPass t τ 32 0 = τ 32 0 ∧ mPass t τ 33 0 = τ 33 0 ∧ mPass t τ 35 0 = τ 35 0 ∧ τ 34 0 ≤ mPass t τ 34 0 := by
  intro t
  induction t with
  | zero => exact fun _ _ => ⟨h, rfl, rfl, rfl, rfl, rfl, Nat.le_refl _⟩
  | succ t ih =>
    intro hm hn
    have hu0 : mPass t τ 34 0 ≤ mPass1 (mPass t τ) 34 0 := mPass1_up _
    have hn1 : mPass1 (mPass t τ) 34 0 ≤ 51000 := hn
    obtain ⟨a1, a2, a3, a4, a5, a6, a7⟩ := ih (by omega) (by omega)
    obtain ⟨b1, b2, b3, b4, b5, b6, b7, -, -⟩ := mPass1_in a1 (by omega) hn1
    refine ⟨b1, ?_, ?_, ?_, ?_, ?_, ?_⟩
    · show mPass1 _ 30 0 = _; omega
    · show mPass1 _ 31 0 = _; omega
    · show mPass1 _ 32 0 = _; omega
    · show mPass1 _ 33 0 = _; omega
    · show mPass1 _ 35 0 = _; omega
    · show _ ≤ mPass1 _ 34 0; omega
def mSet (f : Nat → Bool) : Nat → Nat
  | 0 => 0
  | n + 1 => if f n then mSet f n ||| 2 ^ n else mSet f n
theorem mSet_lt (f : Nat → Bool) : ∀ n, n ≤ 6 → mSet f n < 64 := by
  intro n
  induction n with
  | zero => exact fun _ => (show (0 : Nat) < 64 by decide)
  | succ n ih =>
    intro hn
    show (if f n then mSet f n ||| 2 ^ n else mSet f n) < 64
    split
    · exact (show ∀ r, r < 6 → ∀ m, m < 64 → m ||| 2 ^ r < 64 by decide +kernel) n (by omega) _ (ih (by omega))
    · exact ih (by omega)
def mNx (τ : kS) (c r : Nat) : Nat :=
  if 0 < τ 16 (6 * c + r) then τ 17 (6 * c + r) else
  if τ 30 0 + 1 ≤ τ 7 c + r then τ 7 c + r else
  if (τ 30 0 + 1 - (τ 7 c + r)) % τ 6 c = 0 then τ 30 0 + 1 else τ 30 0 + 1 + τ 6 c - (τ 30 0 + 1 - (τ 7 c + r)) % τ 6 c
theorem mNx_ok {τ : kS} {c r : Nat} (h0 : τ 16 (6 * c + r) = 0) (hI : 1 ≤ τ 6 c) : τ 30 0 + 1 ≤ mNx τ c r ∧ mSch τ c r (mNx τ c r) = true ∧ ∀ t, τ 30 0 + 1 ≤ t → t < mNx τ c r → mSch τ c r t = false := by
  generalize hm : τ 30 0 + 1 = m
  generalize hs : τ 7 c + r = s
  generalize hi : τ 6 c = I
  rw [hi] at hI
  unfold mNx mSch
  rw [if_neg (by omega), hm, hs, hi]
  split
  · rename_i h1
    refine ⟨h1, by simp, fun t h2 h3 => ?_⟩
    rw [decide_eq_false (by omega)]
    rfl
  · rename_i h1
    split
    · rename_i h2
      refine ⟨Nat.le_refl _, ?_, fun t h3 h4 => absurd h3 (by omega)⟩
      rw [decide_eq_true (by omega : s ≤ m), h2]
      rfl
    · rename_i h2
      have hlt := Nat.mod_lt (m - s) (show 0 < I by omega)
      have hdm := Nat.div_add_mod (m - s) I
      refine ⟨by omega, ?_, fun t h3 h4 => ?_⟩
      · rw [decide_eq_true (by omega)]
        have e : m + I - (m - s) % I - s = I * ((m - s) / I + 1) := by rw [Nat.mul_add, Nat.mul_one]; omega
        rw [e, Nat.mul_mod_right]
        rfl
      · rw [decide_eq_true (by omega)]
        have e : t - s = (m - s) % I + (t - m) + I * ((m - s) / I) := by omega
        rw [e, Nat.add_mul_mod_self_left, Nat.mod_eq_of_lt (by omega)]
        simp
        omega
theorem kin_X5_pass_X5 : ∀ w ∈ wsX50, w ∈ wsX5_pass := by decide +kernel
set_option maxHeartbeats 4000000 in
set_option maxRecDepth 100000 in
theorem cm_pass (ε : kEnv) (l : Launch) {A : Nat → Prop} {bd : Nat → Nat} {τ : kS} {H : Heap} {t : Nat} (hAb : ∀ q, A q → kHi ε q) (hm : kM ε A bd τ H) (hB : mB τ) (ht1 : 1 ≤ t) (ht2 : t ≤ 200) (hmm : τ 30 0 + t ≤ 102400) (hfin : mPass t (mT τ 0) 34 0 ≤ 51000) : kMi ε l yX5_pass wsX5_pass ({ frames := 6, cells := 0, slots := 0, locals := 140 }) [.ref (bd 0), .int (nI t)] H A (0) (0) (fun v9 H' => v9 = nI (mPass t (mT τ 0) 34 0 - τ 34 0) ∧ kM ε A bd (mPass t (mT τ 0)) H') := by
  refine kof (cc := cX5_pass) (maxL := 4) (ret := (some .int)) (by decide) rfl (Nat.le_of_ble_eq_true rfl) ?_
  intro p e s m below meth c ls S hr hlocks hin hH hE hl
  have S : CallFix p m c cX5_pass 4 s _ wsX5_pass RX5 := S
  have hx := S.1
  have hb := S.2.1
  have hown : s.vm.findClass RX5 = some m.cls := S.2.2.2.1
  have hts := S.2.2.2.2
  have hK := hE.1
  have hS : va_S A s.heap H [] := by rw [hH]; exact va_S.rf
  have hl : lv_has ls 4 [(0, .ref (bd 0)), (1, .int (nI t))] := hl
  have hnR := hB.nR
  have hnC := hB.nC
  have hnW := hB.nW
  have hnA := hB.nA
  have hmn := hB.min
  have hin := mPass_in (τ := mT τ 0) hB t hmm hfin
  refine lv_aload_n hx hb dX5_pass_0 rfl (lv_at hl 0 rfl) ?_
  refine lv_iload_n hx hb dX5_pass_1 rfl (lv_at hl 1 rfl) ?_
  refine lv_iconst (v := 1) hx hb dX5_pass_2 (by decide) ?_
  refine lv_sipush (v := 200) hx hb dX5_pass_3 (by decide) ?_
  refine kgo_pi (v := 1) (kc_S (As := [.int (nI t), .int 1, .int 200]) (rest := [.ref (bd 0)]) S hE hS hAb (cm_isInT ε l (nI_nlt (a := t) (b := 1) ht1 (by omega)) ((nI_leI (a := t) (b := 200) (by omega) (by decide)).mpr ht2)) (va_cwS 3 hts gX5_pass_X5_isIn rfl rfl rfl (by decide +kernel) ⟨Nat.le_of_ble_eq_true rfl, Nat.le_of_ble_eq_true rfl⟩) rfl hl.1 rfl (Nat.le_of_ble_eq_true rfl) dX5_pass_6 ⟨Nat.zero_le _, Nat.zero_le _⟩) hS (fun locs hS => ?_)
  refine lv_if_eq (tgt := 16) hx hb dX5_pass_9 (by decide) (fun hc => absurd hc (by decide)) (fun _ => ?_)
  refine lv_iconst (v := 0) hx hb dX5_pass_12 (by decide) ?_
  refine lv_goto (tgt := 17) hx hb dX5_pass_13 (by decide) ?_
  refine kr_top (y := nI 0) (rfl) ?_
  refine kr_put (T := TX5) (N := 28) (v := .int (nI 0)) (ty := .int) hx hb hts hown hK hS (hm.lv 0 (by decide)) (hm.1 0 (by decide)).2 rfl kin_X5_pass_X5 tyX5 tyX5_ok nmX5 27 (by decide) "ProbewebModel" (hts (.fieldLink RX5 78 "ProbewebModel" "thrown" "I") (by decide +kernel)) (fun _ h => h) rfl (by decide +kernel) rfl rfl (Nat.le_of_ble_eq_true rfl) dX5_pass_17 (fun H1 locs hU ho hS => ?_)
  have hm := km_p35 (v := 0) hm hU ho
  clear hU ho
  have hB : mB (mT τ 0) := hB
  refine lv_aload_n hx hb dX5_pass_20 rfl (lv_at hl 0 rfl) ?_
  refine kr_get (T := TX5) (N := 28) hx hb hts hown hK (hm.lv 0 (by decide)) rfl kin_X5_pass_X5 24 (by decide) (by decide +kernel) rfl dX5_pass_21 ?_
  refine kr_top (y := nI (τ 34 0)) (rfl) ?_
  refine lv_istore_n (lv' := [(2, .int (nI (τ 34 0))), (0, .ref (bd 0)), (1, .int (nI t))]) hx hb dX5_pass_24 rfl hl (by decide) rfl (fun ls hl => ?_)
  refine lv_iconst (v := 0) hx hb dX5_pass_25 (by decide) ?_
  refine lv_istore_n (lv' := [(3, .int 0), (2, .int (nI (τ 34 0))), (0, .ref (bd 0)), (1, .int (nI t))]) hx hb dX5_pass_26 rfl hl (by decide) rfl (fun ls hl => ?_)
  suffices K : ∀ (n k : Nat) (H2 : Heap) (locs : List Loc) (ls : Array Slot), k + n = t → kM ε A bd ((mPass k (mT τ 0))) H2 → va_S A s.heap H2 locs → lv_has ls 4 [(3, .int (nI k)), (2, .int (nI (τ 34 0))), (1, .int (nI t)), (0, .ref (bd 0))] → W p l e ({ frames := 6, cells := 0, slots := 0, locals := 140 }) s m [.ref (bd 0), .int (nI t)].toArray below meth c H2 locs 0 0 (MQ below (kQi (fun v9 H' => v9 = nI (mPass t (mT τ 0) 34 0 - τ 34 0) ∧ kM ε A bd (mPass t (mT τ 0)) H') A) [.ref (bd 0), .int (nI t)].toArray s (0) (0) A) (F0 m 27 ls []) from K t 0 _ _ _ (Nat.zero_add _) hm hS (lv_sub hl [0, 1, 3, 2] rfl)
  clear hl hS hm
  intro n
  induction n with
  | zero =>
    intro k H2 locs ls hkn hm  hS hl
    have hkN : k = t := hkn
    clear hkn
    refine lv_iload_n hx hb dX5_pass_27 rfl (lv_at hl 0 rfl) ?_
    refine lv_iload_n hx hb dX5_pass_28 rfl (lv_at hl 2 rfl) ?_
    refine lv_icmp_ge (tgt := 49) hx hb dX5_pass_29 (by decide) (fun _ => ?_) (fun hc => absurd (by rw [hkN]; exact Int32.le_refl _) hc)
    subst hkN
    refine lv_aload_n hx hb dX5_pass_49 rfl (lv_at hl 3 rfl) ?_
    refine kr_get (T := TX5) (N := 28) hx hb hts hown hK (hm.lv 0 (by decide)) rfl kin_X5_pass_X5 24 (by decide) (by decide +kernel) rfl dX5_pass_50 ?_
    refine lv_iload_n hx hb dX5_pass_53 rfl (lv_at hl 1 rfl) ?_
    refine lv_isub hx hb dX5_pass_54 ?_
    refine kend_i S hr hlocks hS ⟨ksub hin.2.2.2.2.2.2, hm⟩ dX5_pass_55
  | succ n ih =>
    intro k H2 locs ls hkn hm  hS hl
    have hlt : k < t := by omega
    have hmo : mPass (k + 1) (mT τ 0) 34 0 ≤ mPass t (mT τ 0) 34 0 := mPass_mono hlt
    have hmo0 : mPass k (mT τ 0) 34 0 ≤ mPass (k + 1) (mT τ 0) 34 0 := mPass_mono (Nat.le_succ k)
    have hk9 := mPass_in (τ := mT τ 0) hB k (by show τ 30 0 + k ≤ 102400; omega) (by omega)
    refine lv_iload_n hx hb dX5_pass_27 rfl (lv_at hl 0 rfl) ?_
    refine lv_iload_n hx hb dX5_pass_28 rfl (lv_at hl 2 rfl) ?_
    refine lv_icmp_ge (tgt := 49) hx hb dX5_pass_29 (by decide) (fun hc => absurd hc (nI_ge hlt (by omega))) (fun _ => ?_)
    refine lv_aload_n hx hb dX5_pass_32 rfl (lv_at hl 3 rfl) ?_
    refine kr_get (T := TX5) (N := 28) hx hb hts hown hK (hm.lv 0 (by decide)) rfl kin_X5_pass_X5 27 (by decide) (by decide +kernel) rfl dX5_pass_33 ?_
    refine kr_top (y := 0) (by rw [hk9.2.2.2.2.2.1]; rfl) ?_
    refine lv_if_ne (tgt := 49) hx hb dX5_pass_36 (by decide) (fun hc => absurd (by decide) hc) (fun _ => ?_)
    refine lv_aload_n hx hb dX5_pass_39 rfl (lv_at hl 3 rfl) ?_
    refine kgo_v (kc_V (As := []) (rest := []) S hE hS hAb (cm_passes ε l hAb hm hk9.1 (by rw [hk9.2.1]; show τ 30 0 + k < 102400; omega) (show mPass (k + 1) (mT τ 0) 34 0 ≤ 51000 by omega)) (cwV 0 hts gX5_pass_X5_passes rfl rfl rfl (by decide +kernel) ⟨Nat.le_of_ble_eq_true rfl, Nat.le_of_ble_eq_true rfl⟩) (hm.lv 0 (by decide)) rfl rfl hl.1 rfl (Nat.le_of_ble_eq_true rfl) dX5_pass_40 ⟨Nat.zero_le _, Nat.zero_le _⟩) hS (fun _ h => h) (fun H1 locs hm hz hq hS => ?_)
    refine lv_iinc (v := nI (k + 1)) (lv' := [(3, .int (nI (k + 1))), (2, .int (nI (τ 34 0))), (1, .int (nI t)), (0, .ref (bd 0))]) hx hb dX5_pass_43 hl (k := 0) rfl (nI_1 k) (by decide) rfl (fun ls hl => ?_)
    refine lv_goto (tgt := 27) hx hb dX5_pass_46 (by decide) ?_
    exact ih (k + 1) _ _ _ (by omega) hm hS (lv_sub hl [0, 1, 2, 3] rfl)
set_option maxHeartbeats 4000000 in
set_option maxRecDepth 100000 in
theorem cm_passX (ε : kEnv) (l : Launch) {A : Nat → Prop} {bd : Nat → Nat} {τ : kS} {H : Heap} {x : Int32} (hAb : ∀ q, A q → kHi ε q) (hm : kM ε A bd τ H) (hB : mB τ) (h : x < 1 ∨ ¬ x ≤ 200) : kMi ε l yX5_pass wsX5_pass ({ frames := 6, cells := 0, slots := 0, locals := 140 }) [.ref (bd 0), .int x] H A (0) (0) (fun v9 H' => v9 = 0 ∧ kM ε A bd (mT τ 1) H') := by
  refine kof (cc := cX5_pass) (maxL := 4) (ret := (some .int)) (by decide) rfl (Nat.le_of_ble_eq_true rfl) ?_
  intro p e s m below meth c ls S hr hlocks hin hH hE hl
  have S : CallFix p m c cX5_pass 4 s _ wsX5_pass RX5 := S
  have hx := S.1
  have hb := S.2.1
  have hown : s.vm.findClass RX5 = some m.cls := S.2.2.2.1
  have hts := S.2.2.2.2
  have hK := hE.1
  have hS : va_S A s.heap H [] := by rw [hH]; exact va_S.rf
  have hl : lv_has ls 4 [(0, .ref (bd 0)), (1, .int x)] := hl
  have hnR := hB.nR
  have hnC := hB.nC
  have hnW := hB.nW
  have hnA := hB.nA
  have hmn := hB.min
  refine lv_aload_n hx hb dX5_pass_0 rfl (lv_at hl 0 rfl) ?_
  refine lv_iload_n hx hb dX5_pass_1 rfl (lv_at hl 1 rfl) ?_
  refine lv_iconst (v := 1) hx hb dX5_pass_2 (by decide) ?_
  refine lv_sipush (v := 200) hx hb dX5_pass_3 (by decide) ?_
  refine kgo_pi (v := 0) (kc_S (As := [.int x, .int 1, .int 200]) (rest := [.ref (bd 0)]) S hE hS hAb (cm_isInF ε l h) (va_cwS 3 hts gX5_pass_X5_isIn rfl rfl rfl (by decide +kernel) ⟨Nat.le_of_ble_eq_true rfl, Nat.le_of_ble_eq_true rfl⟩) rfl hl.1 rfl (Nat.le_of_ble_eq_true rfl) dX5_pass_6 ⟨Nat.zero_le _, Nat.zero_le _⟩) hS (fun locs hS => ?_)
  refine lv_if_eq (tgt := 16) hx hb dX5_pass_9 (by decide) (fun _ => ?_) (fun hc => absurd (by decide) hc)
  refine lv_iconst (v := 1) hx hb dX5_pass_16 (by decide) ?_
  refine kr_top (y := nI 1) (rfl) ?_
  refine kr_put (T := TX5) (N := 28) (v := .int (nI 1)) (ty := .int) hx hb hts hown hK hS (hm.lv 0 (by decide)) (hm.1 0 (by decide)).2 rfl kin_X5_pass_X5 tyX5 tyX5_ok nmX5 27 (by decide) "ProbewebModel" (hts (.fieldLink RX5 78 "ProbewebModel" "thrown" "I") (by decide +kernel)) (fun _ h => h) rfl (by decide +kernel) rfl rfl (Nat.le_of_ble_eq_true rfl) dX5_pass_17 (fun H1 locs hU ho hS => ?_)
  have hm := km_p35 (v := 1) hm hU ho
  clear hU ho
  have hB : mB (mT τ 1) := hB
  refine lv_aload_n hx hb dX5_pass_20 rfl (lv_at hl 0 rfl) ?_
  refine kr_get (T := TX5) (N := 28) hx hb hts hown hK (hm.lv 0 (by decide)) rfl kin_X5_pass_X5 24 (by decide) (by decide +kernel) rfl dX5_pass_21 ?_
  refine lv_istore_n (lv' := [(2, .int (nI ((ku τ 35 0 1) 34 0))), (0, .ref (bd 0)), (1, .int x)]) hx hb dX5_pass_24 rfl hl (by decide) rfl (fun ls hl => ?_)
  refine lv_iconst (v := 0) hx hb dX5_pass_25 (by decide) ?_
  refine lv_istore_n (lv' := [(3, .int 0), (2, .int (nI ((ku τ 35 0 1) 34 0))), (0, .ref (bd 0)), (1, .int x)]) hx hb dX5_pass_26 rfl hl (by decide) rfl (fun ls hl => ?_)
  refine lv_iload_n hx hb dX5_pass_27 rfl (lv_at hl 0 rfl) ?_
  refine lv_iload_n hx hb dX5_pass_28 rfl (lv_at hl 3 rfl) ?_
  refine lv_icmp_ge (tgt := 49) hx hb dX5_pass_29 (by decide) (fun hc => ?_) (fun hc => ?_)
  · refine lv_aload_n hx hb dX5_pass_49 rfl (lv_at hl 2 rfl) ?_
    refine kr_get (T := TX5) (N := 28) hx hb hts hown hK (hm.lv 0 (by decide)) rfl kin_X5_pass_X5 24 (by decide) (by decide +kernel) rfl dX5_pass_50 ?_
    refine lv_iload_n hx hb dX5_pass_53 rfl (lv_at hl 1 rfl) ?_
    refine lv_isub hx hb dX5_pass_54 ?_
    refine kend_i S hr hlocks hS ⟨Int32.sub_self _, hm⟩ dX5_pass_55
  · refine lv_aload_n hx hb dX5_pass_32 rfl (lv_at hl 2 rfl) ?_
    refine kr_get (T := TX5) (N := 28) hx hb hts hown hK (hm.lv 0 (by decide)) rfl kin_X5_pass_X5 27 (by decide) (by decide +kernel) rfl dX5_pass_33 ?_
    refine kr_top (y := 1) (rfl) ?_
    refine lv_if_ne (tgt := 49) hx hb dX5_pass_36 (by decide) (fun _ => ?_) (fun hc => absurd hc (by decide))
    refine lv_aload_n hx hb dX5_pass_49 rfl (lv_at hl 2 rfl) ?_
    refine kr_get (T := TX5) (N := 28) hx hb hts hown hK (hm.lv 0 (by decide)) rfl kin_X5_pass_X5 24 (by decide) (by decide +kernel) rfl dX5_pass_50 ?_
    refine lv_iload_n hx hb dX5_pass_53 rfl (lv_at hl 1 rfl) ?_
    refine lv_isub hx hb dX5_pass_54 ?_
    refine kend_i S hr hlocks hS ⟨Int32.sub_self _, hm⟩ dX5_pass_55
theorem kin_X5_failing_X5 : ∀ w ∈ wsX50, w ∈ wsX5_failing := by decide +kernel
set_option maxHeartbeats 4000000 in
set_option maxRecDepth 100000 in
theorem cm_failing (ε : kEnv) (l : Launch) {A : Nat → Prop} {bd : Nat → Nat} {τ : kS} {H : Heap} {i : Nat} (hAb : ∀ q, A q → kHi ε q) (hm : kM ε A bd τ H) (hB : mB τ) (hi : i < τ 32 0) : kMi ε l yX5_failing wsX5_failing ({ frames := 6, cells := 0, slots := 0, locals := 140 }) [.ref (bd 0), .int (nI i)] H A (0) (0) (fun v9 H' => v9 = nI (mSet (fun r => mFl τ i r) ((τ 31 0))) ∧ kM ε A bd (mT τ 0) H') := by
  refine kof (cc := cX5_failing) (maxL := 4) (ret := (some .int)) (by decide) rfl (Nat.le_of_ble_eq_true rfl) ?_
  intro p e s m below meth c ls S hr hlocks hin hH hE hl
  have S : CallFix p m c cX5_failing 4 s _ wsX5_failing RX5 := S
  have hx := S.1
  have hb := S.2.1
  have hown : s.vm.findClass RX5 = some m.cls := S.2.2.2.1
  have hts := S.2.2.2.2
  have hK := hE.1
  have hS : va_S A s.heap H [] := by rw [hH]; exact va_S.rf
  have hl : lv_has ls 4 [(0, .ref (bd 0)), (1, .int (nI i))] := hl
  have hnR := hB.nR
  have hnC := hB.nC
  have hnW := hB.nW
  have hnA := hB.nA
  have hmn := hB.min
  refine lv_aload_n hx hb dX5_failing_0 rfl (lv_at hl 0 rfl) ?_
  refine lv_aload_n hx hb dX5_failing_1 rfl (lv_at hl 0 rfl) ?_
  refine lv_iload_n hx hb dX5_failing_2 rfl (lv_at hl 1 rfl) ?_
  refine kgo_pi (v := 1) (kc_V (As := [.int (nI i)]) (rest := [.ref (bd 0)]) S hE hS hAb (cm_isCheckT ε l hm hB hi) (cwV 1 hts gX5_failing_X5_isCheck rfl rfl rfl (by decide +kernel) ⟨Nat.le_of_ble_eq_true rfl, Nat.le_of_ble_eq_true rfl⟩) (hm.lv 0 (by decide)) rfl rfl hl.1 rfl (Nat.le_of_ble_eq_true rfl) dX5_failing_3 ⟨Nat.zero_le _, Nat.zero_le _⟩) hS (fun locs hS => ?_)
  refine lv_if_eq (tgt := 13) hx hb dX5_failing_6 (by decide) (fun hc => absurd hc (by decide)) (fun _ => ?_)
  refine lv_iconst (v := 0) hx hb dX5_failing_9 (by decide) ?_
  refine lv_goto (tgt := 14) hx hb dX5_failing_10 (by decide) ?_
  refine kr_top (y := nI 0) (rfl) ?_
  refine kr_put (T := TX5) (N := 28) (v := .int (nI 0)) (ty := .int) hx hb hts hown hK hS (hm.lv 0 (by decide)) (hm.1 0 (by decide)).2 rfl kin_X5_failing_X5 tyX5 tyX5_ok nmX5 27 (by decide) "ProbewebModel" (hts (.fieldLink RX5 78 "ProbewebModel" "thrown" "I") (by decide +kernel)) (fun _ h => h) rfl (by decide +kernel) rfl rfl (Nat.le_of_ble_eq_true rfl) dX5_failing_14 (fun H1 locs hU ho hS => ?_)
  have hm := km_p35 (v := 0) hm hU ho
  clear hU ho
  have hB : mB (mT τ 0) := hB
  refine lv_iconst (v := 0) hx hb dX5_failing_17 (by decide) ?_
  refine lv_istore_n (lv' := [(2, .int 0), (0, .ref (bd 0)), (1, .int (nI i))]) hx hb dX5_failing_18 rfl hl (by decide) rfl (fun ls hl => ?_)
  refine lv_iconst (v := 0) hx hb dX5_failing_19 (by decide) ?_
  refine lv_istore_n (lv' := [(3, .int 0), (2, .int 0), (0, .ref (bd 0)), (1, .int (nI i))]) hx hb dX5_failing_20 rfl hl (by decide) rfl (fun ls hl => ?_)
  have hfe : ∀ k, mFl (mT τ 0) i k = mFl τ i k := fun k => by unfold mFl; rw [mUp_congr (τ := τ) (τ' := mT τ 0) (fun _ => rfl) (fun _ => rfl)]; rfl
  suffices K : ∀ (n k : Nat) (locs : List Loc) (ls : Array Slot), k + n = τ 31 0 → va_S A s.heap H1 locs → lv_has ls 4 [(3, .int (nI k)), (2, .int (nI (mSet (fun r => mFl τ i r) k))), (1, .int (nI i)), (0, .ref (bd 0))] → W p l e ({ frames := 6, cells := 0, slots := 0, locals := 140 }) s m [.ref (bd 0), .int (nI i)].toArray below meth c H1 locs 0 0 (MQ below (kQi (fun v9 H' => v9 = nI (mSet (fun r => mFl τ i r) ((τ 31 0))) ∧ kM ε A bd (mT τ 0) H') A) [.ref (bd 0), .int (nI i)].toArray s (0) (0) A) (F0 m 21 ls []) from K (τ 31 0) 0 _ _ (Nat.zero_add _) hS (lv_sub hl [0, 1, 3, 2] rfl)
  clear hl hS
  intro n
  induction n with
  | zero =>
    intro k locs ls hkn  hS hl
    have hkN : k = τ 31 0 := hkn
    clear hkn
    refine lv_iload_n hx hb dX5_failing_21 rfl (lv_at hl 0 rfl) ?_
    refine lv_aload_n hx hb dX5_failing_22 rfl (lv_at hl 3 rfl) ?_
    refine kr_get (T := TX5) (N := 28) hx hb hts hown hK (hm.lv 0 (by decide)) rfl kin_X5_failing_X5 1 (by decide) (by decide +kernel) rfl dX5_failing_23 ?_
    refine kr_top (y := nI (τ 31 0)) (rfl) ?_
    refine lv_icmp_ge (tgt := 61) hx hb dX5_failing_26 (by decide) (fun _ => ?_) (fun hc => absurd (by rw [hkN]; exact Int32.le_refl _) hc)
    refine lv_iload_n hx hb dX5_failing_61 rfl (lv_at hl 1 rfl) ?_
    refine kend_i S hr hlocks hS ⟨by rw [hkN], hm⟩ dX5_failing_62
  | succ n ih =>
    intro k locs ls hkn  hS hl
    have hlt : k < τ 31 0 := by omega
    refine lv_iload_n hx hb dX5_failing_21 rfl (lv_at hl 0 rfl) ?_
    refine lv_aload_n hx hb dX5_failing_22 rfl (lv_at hl 3 rfl) ?_
    refine kr_get (T := TX5) (N := 28) hx hb hts hown hK (hm.lv 0 (by decide)) rfl kin_X5_failing_X5 1 (by decide) (by decide +kernel) rfl dX5_failing_23 ?_
    refine kr_top (y := nI (τ 31 0)) (rfl) ?_
    refine lv_icmp_ge (tgt := 61) hx hb dX5_failing_26 (by decide) (fun hc => absurd hc (nI_ge hlt (by omega))) (fun _ => ?_)
    refine lv_aload_n hx hb dX5_failing_29 rfl (lv_at hl 3 rfl) ?_
    refine kr_get (T := TX5) (N := 28) hx hb hts hown hK (hm.lv 0 (by decide)) rfl kin_X5_failing_X5 27 (by decide) (by decide +kernel) rfl dX5_failing_30 ?_
    refine kr_top (y := 0) (rfl) ?_
    refine lv_if_ne (tgt := 61) hx hb dX5_failing_33 (by decide) (fun hc => absurd (by decide) hc) (fun _ => ?_)
    refine lv_iload_n hx hb dX5_failing_36 rfl (lv_at hl 1 rfl) ?_
    refine lv_aload_n hx hb dX5_failing_37 rfl (lv_at hl 3 rfl) ?_
    refine lv_iload_n hx hb dX5_failing_38 rfl (lv_at hl 2 rfl) ?_
    refine lv_iload_n hx hb dX5_failing_39 rfl (lv_at hl 0 rfl) ?_
    refine kgo_pi (v := bI (mFl (mT τ 0) i k)) (kc_V (As := [.int (nI i), .int (nI k)]) (rest := [.int (nI (mSet (fun r => mFl τ i r) k))]) S hE hS hAb (cm_fails ε l hm hB hi (show k < τ 31 0 from hlt)) (cwV 2 hts gX5_failing_X5_fails rfl rfl rfl (by decide +kernel) ⟨Nat.le_of_ble_eq_true rfl, Nat.le_of_ble_eq_true rfl⟩) (hm.lv 0 (by decide)) rfl rfl hl.1 rfl (Nat.le_of_ble_eq_true rfl) dX5_failing_40 ⟨Nat.zero_le _, Nat.zero_le _⟩) hS (fun locs hS => ?_)
    refine kr_top (y := bI (mFl τ i k)) (by rw [hfe]) ?_
    refine lv_if_eq (tgt := 52) hx hb dX5_failing_43 (by decide) (fun hc => ?_) (fun hc => ?_)
    · have ht : mFl τ i k = false := bI_eq0.mp hc
      refine lv_iconst (v := 0) hx hb dX5_failing_52 (by decide) ?_
      refine lv_ior hx hb dX5_failing_53 ?_
      refine kr_top (y := nI (mSet (fun r => mFl τ i r) (k + 1))) (by rw [show mSet (fun r => mFl τ i r) ((k + 1)) = mSet (fun r => mFl τ i r) k from if_neg (show ¬ mFl τ i k = true by rw [ht]; decide)]; exact Int32.or_zero) ?_
      refine lv_istore_n (lv' := [(2, .int (nI (mSet (fun r => mFl τ i r) (k + 1)))), (3, .int (nI k)), (1, .int (nI i)), (0, .ref (bd 0))]) hx hb dX5_failing_54 rfl hl (by decide) rfl (fun ls hl => ?_)
      refine lv_iinc (v := nI (k + 1)) (lv' := [(3, .int (nI (k + 1))), (2, .int (nI (mSet (fun r => mFl τ i r) (k + 1)))), (1, .int (nI i)), (0, .ref (bd 0))]) hx hb dX5_failing_55 hl (k := 1) rfl (nI_1 k) (by decide) rfl (fun ls hl => ?_)
      refine lv_goto (tgt := 21) hx hb dX5_failing_58 (by decide) ?_
      exact ih (k + 1) _ _ (by omega) hS (lv_sub hl [0, 1, 2, 3] rfl)
    · have ht : mFl τ i k = true := bI_ne0.mp hc
      refine lv_iconst (v := 1) hx hb dX5_failing_46 (by decide) ?_
      refine lv_iload_n hx hb dX5_failing_47 rfl (lv_at hl 0 rfl) ?_
      refine lv_ishl hx hb dX5_failing_48 ?_
      refine lv_goto (tgt := 53) hx hb dX5_failing_49 (by decide) ?_
      refine lv_ior hx hb dX5_failing_53 ?_
      refine kr_top (y := nI (mSet (fun r => mFl τ i r) (k + 1))) (by rw [show mSet (fun r => mFl τ i r) ((k + 1)) = mSet (fun r => mFl τ i r) k ||| 2 ^ k from if_pos ht]; exact kb_or k (by omega) _ (mSet_lt _ k (by omega))) ?_
      refine lv_istore_n (lv' := [(2, .int (nI (mSet (fun r => mFl τ i r) (k + 1)))), (3, .int (nI k)), (1, .int (nI i)), (0, .ref (bd 0))]) hx hb dX5_failing_54 rfl hl (by decide) rfl (fun ls hl => ?_)
      refine lv_iinc (v := nI (k + 1)) (lv' := [(3, .int (nI (k + 1))), (2, .int (nI (mSet (fun r => mFl τ i r) (k + 1)))), (1, .int (nI i)), (0, .ref (bd 0))]) hx hb dX5_failing_55 hl (k := 1) rfl (nI_1 k) (by decide) rfl (fun ls hl => ?_)
      refine lv_goto (tgt := 21) hx hb dX5_failing_58 (by decide) ?_
      exact ih (k + 1) _ _ (by omega) hS (lv_sub hl [0, 1, 2, 3] rfl)
set_option maxHeartbeats 4000000 in
set_option maxRecDepth 100000 in
theorem cm_failingX (ε : kEnv) (l : Launch) {A : Nat → Prop} {bd : Nat → Nat} {τ : kS} {H : Heap} {x : Int32} (hAb : ∀ q, A q → kHi ε q) (hm : kM ε A bd τ H) (hB : mB τ) (h : x < 0 ∨ nI (τ 32 0) ≤ x) : kMi ε l yX5_failing wsX5_failing ({ frames := 6, cells := 0, slots := 0, locals := 140 }) [.ref (bd 0), .int x] H A (0) (0) (fun v9 H' => v9 = 0 ∧ kM ε A bd (mT τ 1) H') := by
  refine kof (cc := cX5_failing) (maxL := 4) (ret := (some .int)) (by decide) rfl (Nat.le_of_ble_eq_true rfl) ?_
  intro p e s m below meth c ls S hr hlocks hin hH hE hl
  have S : CallFix p m c cX5_failing 4 s _ wsX5_failing RX5 := S
  have hx := S.1
  have hb := S.2.1
  have hown : s.vm.findClass RX5 = some m.cls := S.2.2.2.1
  have hts := S.2.2.2.2
  have hK := hE.1
  have hS : va_S A s.heap H [] := by rw [hH]; exact va_S.rf
  have hl : lv_has ls 4 [(0, .ref (bd 0)), (1, .int x)] := hl
  have hnR := hB.nR
  have hnC := hB.nC
  have hnW := hB.nW
  have hnA := hB.nA
  have hmn := hB.min
  refine lv_aload_n hx hb dX5_failing_0 rfl (lv_at hl 0 rfl) ?_
  refine lv_aload_n hx hb dX5_failing_1 rfl (lv_at hl 0 rfl) ?_
  refine lv_iload_n hx hb dX5_failing_2 rfl (lv_at hl 1 rfl) ?_
  refine kgo_pi (v := 0) (kc_V (As := [.int x]) (rest := [.ref (bd 0)]) S hE hS hAb (cm_isCheckF ε l hm hB h) (cwV 1 hts gX5_failing_X5_isCheck rfl rfl rfl (by decide +kernel) ⟨Nat.le_of_ble_eq_true rfl, Nat.le_of_ble_eq_true rfl⟩) (hm.lv 0 (by decide)) rfl rfl hl.1 rfl (Nat.le_of_ble_eq_true rfl) dX5_failing_3 ⟨Nat.zero_le _, Nat.zero_le _⟩) hS (fun locs hS => ?_)
  refine lv_if_eq (tgt := 13) hx hb dX5_failing_6 (by decide) (fun _ => ?_) (fun hc => absurd (by decide) hc)
  refine lv_iconst (v := 1) hx hb dX5_failing_13 (by decide) ?_
  refine kr_top (y := nI 1) (rfl) ?_
  refine kr_put (T := TX5) (N := 28) (v := .int (nI 1)) (ty := .int) hx hb hts hown hK hS (hm.lv 0 (by decide)) (hm.1 0 (by decide)).2 rfl kin_X5_failing_X5 tyX5 tyX5_ok nmX5 27 (by decide) "ProbewebModel" (hts (.fieldLink RX5 78 "ProbewebModel" "thrown" "I") (by decide +kernel)) (fun _ h => h) rfl (by decide +kernel) rfl rfl (Nat.le_of_ble_eq_true rfl) dX5_failing_14 (fun H1 locs hU ho hS => ?_)
  have hm := km_p35 (v := 1) hm hU ho
  clear hU ho
  have hB : mB (mT τ 1) := hB
  refine lv_iconst (v := 0) hx hb dX5_failing_17 (by decide) ?_
  refine lv_istore_n (lv' := [(2, .int 0), (0, .ref (bd 0)), (1, .int x)]) hx hb dX5_failing_18 rfl hl (by decide) rfl (fun ls hl => ?_)
  refine lv_iconst (v := 0) hx hb dX5_failing_19 (by decide) ?_
  refine lv_istore_n (lv' := [(3, .int 0), (2, .int 0), (0, .ref (bd 0)), (1, .int x)]) hx hb dX5_failing_20 rfl hl (by decide) rfl (fun ls hl => ?_)
  refine lv_iload_n hx hb dX5_failing_21 rfl (lv_at hl 0 rfl) ?_
  refine lv_aload_n hx hb dX5_failing_22 rfl (lv_at hl 2 rfl) ?_
  refine kr_get (T := TX5) (N := 28) hx hb hts hown hK (hm.lv 0 (by decide)) rfl kin_X5_failing_X5 1 (by decide) (by decide +kernel) rfl dX5_failing_23 ?_
  refine lv_icmp_ge (tgt := 61) hx hb dX5_failing_26 (by decide) (fun hc => ?_) (fun hc => ?_)
  · refine lv_iload_n hx hb dX5_failing_61 rfl (lv_at hl 1 rfl) ?_
    refine kend_i S hr hlocks hS ⟨rfl, hm⟩ dX5_failing_62
  · refine lv_aload_n hx hb dX5_failing_29 rfl (lv_at hl 2 rfl) ?_
    refine kr_get (T := TX5) (N := 28) hx hb hts hown hK (hm.lv 0 (by decide)) rfl kin_X5_failing_X5 27 (by decide) (by decide +kernel) rfl dX5_failing_30 ?_
    refine kr_top (y := 1) (rfl) ?_
    refine lv_if_ne (tgt := 61) hx hb dX5_failing_33 (by decide) (fun _ => ?_) (fun hc => absurd hc (by decide))
    refine lv_iload_n hx hb dX5_failing_61 rfl (lv_at hl 1 rfl) ?_
    refine kend_i S hr hlocks hS ⟨rfl, hm⟩ dX5_failing_62
theorem kin_X5_trusted_X5 : ∀ w ∈ wsX50, w ∈ wsX5_trusted := by decide +kernel
set_option maxHeartbeats 4000000 in
set_option maxRecDepth 100000 in
theorem cm_trusted (ε : kEnv) (l : Launch) {A : Nat → Prop} {bd : Nat → Nat} {τ : kS} {H : Heap} {i : Nat} (hAb : ∀ q, A q → kHi ε q) (hm : kM ε A bd τ H) (hB : mB τ) (hi : i < τ 32 0) : kMi ε l yX5_trusted wsX5_trusted ({ frames := 6, cells := 0, slots := 0, locals := 140 }) [.ref (bd 0), .int (nI i)] H A (0) (0) (fun v9 H' => v9 = nI (mSet (fun r => mTr τ i r) ((τ 31 0))) ∧ kM ε A bd (mT τ 0) H') := by
  refine kof (cc := cX5_trusted) (maxL := 4) (ret := (some .int)) (by decide) rfl (Nat.le_of_ble_eq_true rfl) ?_
  intro p e s m below meth c ls S hr hlocks hin hH hE hl
  have S : CallFix p m c cX5_trusted 4 s _ wsX5_trusted RX5 := S
  have hx := S.1
  have hb := S.2.1
  have hown : s.vm.findClass RX5 = some m.cls := S.2.2.2.1
  have hts := S.2.2.2.2
  have hK := hE.1
  have hS : va_S A s.heap H [] := by rw [hH]; exact va_S.rf
  have hl : lv_has ls 4 [(0, .ref (bd 0)), (1, .int (nI i))] := hl
  have hnR := hB.nR
  have hnC := hB.nC
  have hnW := hB.nW
  have hnA := hB.nA
  have hmn := hB.min
  refine lv_aload_n hx hb dX5_trusted_0 rfl (lv_at hl 0 rfl) ?_
  refine lv_aload_n hx hb dX5_trusted_1 rfl (lv_at hl 0 rfl) ?_
  refine lv_iload_n hx hb dX5_trusted_2 rfl (lv_at hl 1 rfl) ?_
  refine kgo_pi (v := 1) (kc_V (As := [.int (nI i)]) (rest := [.ref (bd 0)]) S hE hS hAb (cm_isCheckT ε l hm hB hi) (cwV 1 hts gX5_trusted_X5_isCheck rfl rfl rfl (by decide +kernel) ⟨Nat.le_of_ble_eq_true rfl, Nat.le_of_ble_eq_true rfl⟩) (hm.lv 0 (by decide)) rfl rfl hl.1 rfl (Nat.le_of_ble_eq_true rfl) dX5_trusted_3 ⟨Nat.zero_le _, Nat.zero_le _⟩) hS (fun locs hS => ?_)
  refine lv_if_eq (tgt := 13) hx hb dX5_trusted_6 (by decide) (fun hc => absurd hc (by decide)) (fun _ => ?_)
  refine lv_iconst (v := 0) hx hb dX5_trusted_9 (by decide) ?_
  refine lv_goto (tgt := 14) hx hb dX5_trusted_10 (by decide) ?_
  refine kr_top (y := nI 0) (rfl) ?_
  refine kr_put (T := TX5) (N := 28) (v := .int (nI 0)) (ty := .int) hx hb hts hown hK hS (hm.lv 0 (by decide)) (hm.1 0 (by decide)).2 rfl kin_X5_trusted_X5 tyX5 tyX5_ok nmX5 27 (by decide) "ProbewebModel" (hts (.fieldLink RX5 78 "ProbewebModel" "thrown" "I") (by decide +kernel)) (fun _ h => h) rfl (by decide +kernel) rfl rfl (Nat.le_of_ble_eq_true rfl) dX5_trusted_14 (fun H1 locs hU ho hS => ?_)
  have hm := km_p35 (v := 0) hm hU ho
  clear hU ho
  have hB : mB (mT τ 0) := hB
  refine lv_iconst (v := 0) hx hb dX5_trusted_17 (by decide) ?_
  refine lv_istore_n (lv' := [(2, .int 0), (0, .ref (bd 0)), (1, .int (nI i))]) hx hb dX5_trusted_18 rfl hl (by decide) rfl (fun ls hl => ?_)
  refine lv_iconst (v := 0) hx hb dX5_trusted_19 (by decide) ?_
  refine lv_istore_n (lv' := [(3, .int 0), (2, .int 0), (0, .ref (bd 0)), (1, .int (nI i))]) hx hb dX5_trusted_20 rfl hl (by decide) rfl (fun ls hl => ?_)
  have hfe : ∀ k, mTr (mT τ 0) i k = mTr τ i k := fun k => by unfold mTr; rw [mUp_congr (τ := τ) (τ' := mT τ 0) (fun _ => rfl) (fun _ => rfl)]; rfl
  suffices K : ∀ (n k : Nat) (locs : List Loc) (ls : Array Slot), k + n = τ 31 0 → va_S A s.heap H1 locs → lv_has ls 4 [(3, .int (nI k)), (2, .int (nI (mSet (fun r => mTr τ i r) k))), (1, .int (nI i)), (0, .ref (bd 0))] → W p l e ({ frames := 6, cells := 0, slots := 0, locals := 140 }) s m [.ref (bd 0), .int (nI i)].toArray below meth c H1 locs 0 0 (MQ below (kQi (fun v9 H' => v9 = nI (mSet (fun r => mTr τ i r) ((τ 31 0))) ∧ kM ε A bd (mT τ 0) H') A) [.ref (bd 0), .int (nI i)].toArray s (0) (0) A) (F0 m 21 ls []) from K (τ 31 0) 0 _ _ (Nat.zero_add _) hS (lv_sub hl [0, 1, 3, 2] rfl)
  clear hl hS
  intro n
  induction n with
  | zero =>
    intro k locs ls hkn  hS hl
    have hkN : k = τ 31 0 := hkn
    clear hkn
    refine lv_iload_n hx hb dX5_trusted_21 rfl (lv_at hl 0 rfl) ?_
    refine lv_aload_n hx hb dX5_trusted_22 rfl (lv_at hl 3 rfl) ?_
    refine kr_get (T := TX5) (N := 28) hx hb hts hown hK (hm.lv 0 (by decide)) rfl kin_X5_trusted_X5 1 (by decide) (by decide +kernel) rfl dX5_trusted_23 ?_
    refine kr_top (y := nI (τ 31 0)) (rfl) ?_
    refine lv_icmp_ge (tgt := 61) hx hb dX5_trusted_26 (by decide) (fun _ => ?_) (fun hc => absurd (by rw [hkN]; exact Int32.le_refl _) hc)
    refine lv_iload_n hx hb dX5_trusted_61 rfl (lv_at hl 1 rfl) ?_
    refine kend_i S hr hlocks hS ⟨by rw [hkN], hm⟩ dX5_trusted_62
  | succ n ih =>
    intro k locs ls hkn  hS hl
    have hlt : k < τ 31 0 := by omega
    refine lv_iload_n hx hb dX5_trusted_21 rfl (lv_at hl 0 rfl) ?_
    refine lv_aload_n hx hb dX5_trusted_22 rfl (lv_at hl 3 rfl) ?_
    refine kr_get (T := TX5) (N := 28) hx hb hts hown hK (hm.lv 0 (by decide)) rfl kin_X5_trusted_X5 1 (by decide) (by decide +kernel) rfl dX5_trusted_23 ?_
    refine kr_top (y := nI (τ 31 0)) (rfl) ?_
    refine lv_icmp_ge (tgt := 61) hx hb dX5_trusted_26 (by decide) (fun hc => absurd hc (nI_ge hlt (by omega))) (fun _ => ?_)
    refine lv_aload_n hx hb dX5_trusted_29 rfl (lv_at hl 3 rfl) ?_
    refine kr_get (T := TX5) (N := 28) hx hb hts hown hK (hm.lv 0 (by decide)) rfl kin_X5_trusted_X5 27 (by decide) (by decide +kernel) rfl dX5_trusted_30 ?_
    refine kr_top (y := 0) (rfl) ?_
    refine lv_if_ne (tgt := 61) hx hb dX5_trusted_33 (by decide) (fun hc => absurd (by decide) hc) (fun _ => ?_)
    refine lv_iload_n hx hb dX5_trusted_36 rfl (lv_at hl 1 rfl) ?_
    refine lv_aload_n hx hb dX5_trusted_37 rfl (lv_at hl 3 rfl) ?_
    refine lv_iload_n hx hb dX5_trusted_38 rfl (lv_at hl 2 rfl) ?_
    refine lv_iload_n hx hb dX5_trusted_39 rfl (lv_at hl 0 rfl) ?_
    refine kgo_pi (v := bI (mTr (mT τ 0) i k)) (kc_V (As := [.int (nI i), .int (nI k)]) (rest := [.int (nI (mSet (fun r => mTr τ i r) k))]) S hE hS hAb (cm_isTrusted ε l hm hB hi (show k < τ 31 0 from hlt)) (cwV 2 hts gX5_trusted_X5_isTrusted rfl rfl rfl (by decide +kernel) ⟨Nat.le_of_ble_eq_true rfl, Nat.le_of_ble_eq_true rfl⟩) (hm.lv 0 (by decide)) rfl rfl hl.1 rfl (Nat.le_of_ble_eq_true rfl) dX5_trusted_40 ⟨Nat.zero_le _, Nat.zero_le _⟩) hS (fun locs hS => ?_)
    refine kr_top (y := bI (mTr τ i k)) (by rw [hfe]) ?_
    refine lv_if_eq (tgt := 52) hx hb dX5_trusted_43 (by decide) (fun hc => ?_) (fun hc => ?_)
    · have ht : mTr τ i k = false := bI_eq0.mp hc
      refine lv_iconst (v := 0) hx hb dX5_trusted_52 (by decide) ?_
      refine lv_ior hx hb dX5_trusted_53 ?_
      refine kr_top (y := nI (mSet (fun r => mTr τ i r) (k + 1))) (by rw [show mSet (fun r => mTr τ i r) ((k + 1)) = mSet (fun r => mTr τ i r) k from if_neg (show ¬ mTr τ i k = true by rw [ht]; decide)]; exact Int32.or_zero) ?_
      refine lv_istore_n (lv' := [(2, .int (nI (mSet (fun r => mTr τ i r) (k + 1)))), (3, .int (nI k)), (1, .int (nI i)), (0, .ref (bd 0))]) hx hb dX5_trusted_54 rfl hl (by decide) rfl (fun ls hl => ?_)
      refine lv_iinc (v := nI (k + 1)) (lv' := [(3, .int (nI (k + 1))), (2, .int (nI (mSet (fun r => mTr τ i r) (k + 1)))), (1, .int (nI i)), (0, .ref (bd 0))]) hx hb dX5_trusted_55 hl (k := 1) rfl (nI_1 k) (by decide) rfl (fun ls hl => ?_)
      refine lv_goto (tgt := 21) hx hb dX5_trusted_58 (by decide) ?_
      exact ih (k + 1) _ _ (by omega) hS (lv_sub hl [0, 1, 2, 3] rfl)
    · have ht : mTr τ i k = true := bI_ne0.mp hc
      refine lv_iconst (v := 1) hx hb dX5_trusted_46 (by decide) ?_
      refine lv_iload_n hx hb dX5_trusted_47 rfl (lv_at hl 0 rfl) ?_
      refine lv_ishl hx hb dX5_trusted_48 ?_
      refine lv_goto (tgt := 53) hx hb dX5_trusted_49 (by decide) ?_
      refine lv_ior hx hb dX5_trusted_53 ?_
      refine kr_top (y := nI (mSet (fun r => mTr τ i r) (k + 1))) (by rw [show mSet (fun r => mTr τ i r) ((k + 1)) = mSet (fun r => mTr τ i r) k ||| 2 ^ k from if_pos ht]; exact kb_or k (by omega) _ (mSet_lt _ k (by omega))) ?_
      refine lv_istore_n (lv' := [(2, .int (nI (mSet (fun r => mTr τ i r) (k + 1)))), (3, .int (nI k)), (1, .int (nI i)), (0, .ref (bd 0))]) hx hb dX5_trusted_54 rfl hl (by decide) rfl (fun ls hl => ?_)
      refine lv_iinc (v := nI (k + 1)) (lv' := [(3, .int (nI (k + 1))), (2, .int (nI (mSet (fun r => mTr τ i r) (k + 1)))), (1, .int (nI i)), (0, .ref (bd 0))]) hx hb dX5_trusted_55 hl (k := 1) rfl (nI_1 k) (by decide) rfl (fun ls hl => ?_)
      refine lv_goto (tgt := 21) hx hb dX5_trusted_58 (by decide) ?_
      exact ih (k + 1) _ _ (by omega) hS (lv_sub hl [0, 1, 2, 3] rfl)
set_option maxHeartbeats 4000000 in
set_option maxRecDepth 100000 in
theorem cm_trustedX (ε : kEnv) (l : Launch) {A : Nat → Prop} {bd : Nat → Nat} {τ : kS} {H : Heap} {x : Int32} (hAb : ∀ q, A q → kHi ε q) (hm : kM ε A bd τ H) (hB : mB τ) (h : x < 0 ∨ nI (τ 32 0) ≤ x) : kMi ε l yX5_trusted wsX5_trusted ({ frames := 6, cells := 0, slots := 0, locals := 140 }) [.ref (bd 0), .int x] H A (0) (0) (fun v9 H' => v9 = 0 ∧ kM ε A bd (mT τ 1) H') := by
  refine kof (cc := cX5_trusted) (maxL := 4) (ret := (some .int)) (by decide) rfl (Nat.le_of_ble_eq_true rfl) ?_
  intro p e s m below meth c ls S hr hlocks hin hH hE hl
  have S : CallFix p m c cX5_trusted 4 s _ wsX5_trusted RX5 := S
  have hx := S.1
  have hb := S.2.1
  have hown : s.vm.findClass RX5 = some m.cls := S.2.2.2.1
  have hts := S.2.2.2.2
  have hK := hE.1
  have hS : va_S A s.heap H [] := by rw [hH]; exact va_S.rf
  have hl : lv_has ls 4 [(0, .ref (bd 0)), (1, .int x)] := hl
  have hnR := hB.nR
  have hnC := hB.nC
  have hnW := hB.nW
  have hnA := hB.nA
  have hmn := hB.min
  refine lv_aload_n hx hb dX5_trusted_0 rfl (lv_at hl 0 rfl) ?_
  refine lv_aload_n hx hb dX5_trusted_1 rfl (lv_at hl 0 rfl) ?_
  refine lv_iload_n hx hb dX5_trusted_2 rfl (lv_at hl 1 rfl) ?_
  refine kgo_pi (v := 0) (kc_V (As := [.int x]) (rest := [.ref (bd 0)]) S hE hS hAb (cm_isCheckF ε l hm hB h) (cwV 1 hts gX5_trusted_X5_isCheck rfl rfl rfl (by decide +kernel) ⟨Nat.le_of_ble_eq_true rfl, Nat.le_of_ble_eq_true rfl⟩) (hm.lv 0 (by decide)) rfl rfl hl.1 rfl (Nat.le_of_ble_eq_true rfl) dX5_trusted_3 ⟨Nat.zero_le _, Nat.zero_le _⟩) hS (fun locs hS => ?_)
  refine lv_if_eq (tgt := 13) hx hb dX5_trusted_6 (by decide) (fun _ => ?_) (fun hc => absurd (by decide) hc)
  refine lv_iconst (v := 1) hx hb dX5_trusted_13 (by decide) ?_
  refine kr_top (y := nI 1) (rfl) ?_
  refine kr_put (T := TX5) (N := 28) (v := .int (nI 1)) (ty := .int) hx hb hts hown hK hS (hm.lv 0 (by decide)) (hm.1 0 (by decide)).2 rfl kin_X5_trusted_X5 tyX5 tyX5_ok nmX5 27 (by decide) "ProbewebModel" (hts (.fieldLink RX5 78 "ProbewebModel" "thrown" "I") (by decide +kernel)) (fun _ h => h) rfl (by decide +kernel) rfl rfl (Nat.le_of_ble_eq_true rfl) dX5_trusted_14 (fun H1 locs hU ho hS => ?_)
  have hm := km_p35 (v := 1) hm hU ho
  clear hU ho
  have hB : mB (mT τ 1) := hB
  refine lv_iconst (v := 0) hx hb dX5_trusted_17 (by decide) ?_
  refine lv_istore_n (lv' := [(2, .int 0), (0, .ref (bd 0)), (1, .int x)]) hx hb dX5_trusted_18 rfl hl (by decide) rfl (fun ls hl => ?_)
  refine lv_iconst (v := 0) hx hb dX5_trusted_19 (by decide) ?_
  refine lv_istore_n (lv' := [(3, .int 0), (2, .int 0), (0, .ref (bd 0)), (1, .int x)]) hx hb dX5_trusted_20 rfl hl (by decide) rfl (fun ls hl => ?_)
  refine lv_iload_n hx hb dX5_trusted_21 rfl (lv_at hl 0 rfl) ?_
  refine lv_aload_n hx hb dX5_trusted_22 rfl (lv_at hl 2 rfl) ?_
  refine kr_get (T := TX5) (N := 28) hx hb hts hown hK (hm.lv 0 (by decide)) rfl kin_X5_trusted_X5 1 (by decide) (by decide +kernel) rfl dX5_trusted_23 ?_
  refine lv_icmp_ge (tgt := 61) hx hb dX5_trusted_26 (by decide) (fun hc => ?_) (fun hc => ?_)
  · refine lv_iload_n hx hb dX5_trusted_61 rfl (lv_at hl 1 rfl) ?_
    refine kend_i S hr hlocks hS ⟨rfl, hm⟩ dX5_trusted_62
  · refine lv_aload_n hx hb dX5_trusted_29 rfl (lv_at hl 2 rfl) ?_
    refine kr_get (T := TX5) (N := 28) hx hb hts hown hK (hm.lv 0 (by decide)) rfl kin_X5_trusted_X5 27 (by decide) (by decide +kernel) rfl dX5_trusted_30 ?_
    refine kr_top (y := 1) (rfl) ?_
    refine lv_if_ne (tgt := 61) hx hb dX5_trusted_33 (by decide) (fun _ => ?_) (fun hc => absurd hc (by decide))
    refine lv_iload_n hx hb dX5_trusted_61 rfl (lv_at hl 1 rfl) ?_
    refine kend_i S hr hlocks hS ⟨rfl, hm⟩ dX5_trusted_62
