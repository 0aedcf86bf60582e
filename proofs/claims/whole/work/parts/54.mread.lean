/-! ===== the reference's own reads ===== -/
def mUp (τ : kS) (g : Nat) : Nat → Nat → Bool
  | _, 0 => false
  | 0, _ + 1 => false
  | n + 1, k + 1 => τ g k == 1 || mUp τ g n (τ 1 k)
def mFl (τ : kS) (c r : Nat) : Bool := τ 14 (6 * c + r) == 1 || mUp τ 2 6 (r + 1)
def mTr (τ : kS) (c r : Nat) : Bool := decide (0 < τ 15 (6 * c + r)) && !mUp τ 3 6 (r + 1)
def mSch (τ : kS) (c r t : Nat) : Bool := decide (τ 7 c + r ≤ t) && (t - (τ 7 c + r)) % τ 6 c == 0
def mMt (τ : kS) (c : Nat) : Nat → Bool
  | 0 => false
  | n + 1 => mMt τ c n || (τ 18 n == c && decide (τ 19 n ≤ τ 30 0) && decide (τ 30 0 < τ 20 n))
theorem mUp_0 (τ : kS) (g n : Nat) : mUp τ g n 0 = false := by cases n <;> rfl
theorem nI_b {v : Nat} (h : v ≤ 1) : nI v = bI (v == 1) := by
  have h2 : v = 0 ∨ v = 1 := by omega
  rcases h2 with rfl | rfl <;> rfl
theorem bI_or (a b : Bool) : bI a ||| bI b = bI (a || b) := by cases a <;> cases b <;> decide
theorem bI_and (a b : Bool) : bI a &&& bI b = bI (a && b) := by cases a <;> cases b <;> decide
theorem ksub2 (t o r : Nat) : nI t - nI o - nI r = nI t - nI (o + r) := by
  rw [← nI_add, ← Int32.toBitVec_inj]
  simp only [Int32.toBitVec_sub, Int32.toBitVec_add]
  generalize (nI t).toBitVec = x
  generalize (nI o).toBitVec = y
  generalize (nI r).toBitVec = z
  bv_omega
theorem kneg {a b : Nat} (h : a < b) (hb : b < 2 ^ 30) : nI a - nI b < 0 := by
  obtain ⟨d, rfl⟩ : ∃ d, b = a + (d + 1) := ⟨b - a - 1, by omega⟩
  have e : nI a - nI (a + (d + 1)) = - nI (d + 1) := by
    rw [← nI_add, ← Int32.toBitVec_inj]
    simp only [Int32.toBitVec_sub, Int32.toBitVec_add, Int32.toBitVec_neg]
    generalize (nI a).toBitVec = x
    generalize (nI (d + 1)).toBitVec = y
    bv_omega
  rw [e]
  apply Int32.lt_iff_toInt_lt.mpr
  rw [Int32.toInt_neg, nI_toInt (by omega)]
  have e2 : (-((d + 1 : Nat) : Int)).bmod (2 ^ 32) = -((d + 1 : Nat) : Int) := by
    apply Int.bmod_eq_of_le <;> omega
  rw [e2]
  have : (0 : Int32).toInt = 0 := by decide
  omega
theorem kin_X5_fails_X5 : ∀ w ∈ wsX50, w ∈ wsX5_fails := by decide +kernel
set_option maxHeartbeats 4000000 in
set_option maxRecDepth 100000 in
theorem cm_fails (ε : kEnv) (l : Launch) {A : Nat → Prop} {bd : Nat → Nat} {τ : kS} {H : Heap} {i r : Nat} (hm : kM ε A bd τ H) (hB : mB τ) (hi : i < τ 32 0) (hr0 : r < τ 31 0) : kPi ε l yX5_fails wsX5_fails ({ frames := 0, cells := 0, slots := 0, locals := 0 }) [.ref (bd 0), .int (nI i), .int (nI r)] H (bI (mFl τ i r)) := by
  refine kof (cc := cX5_fails) (maxL := 5) (ret := (some .boolean)) (by decide) rfl (Nat.le_of_ble_eq_true rfl) ?_
  intro p e s m below meth c ls S hr hlocks hin hH hE hl
  have S : CallFix p m c cX5_fails 5 s _ wsX5_fails RX5 := S
  have hx := S.1
  have hb := S.2.1
  have hown : s.vm.findClass RX5 = some m.cls := S.2.2.2.1
  have hts := S.2.2.2.2
  have hK := hE.1
  have hS : va_S kNo s.heap H [] := by rw [hH]; exact va_S.rf
  have hAb : ∀ q, kNo q → kHi ε q := fun _ h => h.elim
  have hl : lv_has ls 5 [(0, .ref (bd 0)), (1, .int (nI i)), (2, .int (nI r))] := hl
  have hnR := hB.nR
  have hnC := hB.nC
  have hnW := hB.nW
  have hnA := hB.nA
  have hmn := hB.min
  have hpr := hB.pr (6 * i + r)
  refine lv_aload_n hx hb dX5_fails_0 rfl (lv_at hl 0 rfl) ?_
  refine kr_get (T := TX5) (N := 28) hx hb hts hown hK (hm.lv 0 (by decide)) rfl kin_X5_fails_X5 16 (by decide) (by decide +kernel) rfl dX5_fails_1 ?_
  refine lv_bipush (v := 6) hx hb dX5_fails_4 (by decide) ?_
  refine lv_iload_n hx hb dX5_fails_6 rfl (lv_at hl 1 rfl) ?_
  refine lv_imul hx hb dX5_fails_7 ?_
  refine kr_top (y := nI (6 * i)) (nI_mul 6 i) ?_
  refine lv_iload_n hx hb dX5_fails_8 rfl (lv_at hl 2 rfl) ?_
  refine lv_iadd hx hb dX5_fails_9 ?_
  refine kr_top (y := nI (6 * i + r)) (nI_add _ _) ?_
  refine kr_zld hx hb hK (hm.lv 14 (by decide)) (j := 6 * i + r) ((show 6 * i + r < 48 by omega)) (nI_clamp (ks31 ((show 6 * i + r < 48 by omega)))) (nI_pos (ks31 ((show 6 * i + r < 48 by omega)))) (x := nI (τ 14 (6 * i + r))) rfl dX5_fails_10 ?_
  refine kr_top (y := bI (τ 14 (6 * i + r) == 1)) (nI_b hpr.1) ?_
  refine lv_istore_n (lv' := [(3, .int (bI (τ 14 (6 * i + r) == 1))), (0, .ref (bd 0)), (1, .int (nI i)), (2, .int (nI r))]) hx hb dX5_fails_11 rfl hl (by decide) rfl (fun ls hl => ?_)
  refine lv_iload_n hx hb dX5_fails_12 rfl (lv_at hl 3 rfl) ?_
  refine lv_istore (lv' := [(4, .int (nI r)), (3, .int (bI (τ 14 (6 * i + r) == 1))), (0, .ref (bd 0)), (1, .int (nI i)), (2, .int (nI r))]) hx hb dX5_fails_13 hl (by decide) rfl (fun ls hl => ?_)
  suffices K : ∀ (n z : Nat) (b : Bool) (locs : List Loc) (ls : Array Slot), z ≤ n → z ≤ τ 31 0 → (b || mUp τ 2 n z) = mFl τ i r → va_S kNo s.heap H locs → lv_has ls 5 [(4, .int (mI z)), (3, .int (bI b)), (2, .int (nI r)), (1, .int (nI i)), (0, .ref (bd 0))] → W p l e ({ frames := 0, cells := 0, slots := 0, locals := 0 }) s m [.ref (bd 0), .int (nI i), .int (nI r)].toArray below meth c H locs 0 0 (MQ below (kQi (fun r9 H9 => r9 = bI (mFl τ i r) ∧ H9 = H) kNo) [.ref (bd 0), .int (nI i), .int (nI r)].toArray s 0 0 kNo) (F0 m 15 ls []) from K 6 (r + 1) _ _ _ (by omega) (by omega) rfl hS (lv_sub hl [0, 1, 4, 3, 2] rfl)
  clear hl hS
  intro n
  induction n with
  | zero =>
    intro z b locs ls hz hzn hR hS hl
    have h0 : z = 0 := by omega
    subst h0
    have hb9 : b = mFl τ i r := by rw [← hR, mUp_0]; cases b <;> rfl
    refine lv_iload hx hb dX5_fails_15 (lv_at hl 0 rfl) ?_
    refine lv_if_lt (tgt := 42) hx hb dX5_fails_17 (by decide) (fun _ => ?_) (fun hc => absurd (by decide) hc)
    refine lv_iload_n hx hb dX5_fails_42 rfl (lv_at hl 1 rfl) ?_
    refine kend_z S hr hlocks hS ⟨by rw [hb9], rfl⟩ (bI_01 _) dX5_fails_43
  | succ n ih =>
    intro z b locs ls hz hzn hR hS hl
    cases z with
    | zero =>
      have hb9 : b = mFl τ i r := by rw [← hR, mUp_0]; cases b <;> rfl
      refine lv_iload hx hb dX5_fails_15 (lv_at hl 0 rfl) ?_
      refine lv_if_lt (tgt := 42) hx hb dX5_fails_17 (by decide) (fun _ => ?_) (fun hc => absurd (by decide) hc)
      refine lv_iload_n hx hb dX5_fails_42 rfl (lv_at hl 1 rfl) ?_
      refine kend_z S hr hlocks hS ⟨by rw [hb9], rfl⟩ (bI_01 _) dX5_fails_43
    | succ z =>
      have hl : lv_has ls 5 [(4, .int (nI z)), (3, .int (bI b)), (2, .int (nI r)), (1, .int (nI i)), (0, .ref (bd 0))] := hl
      have hz6 : z < 6 := by omega
      have hpz := hB.par z (by omega)
      have hcb := hB.cb z
      refine lv_iload hx hb dX5_fails_15 (lv_at hl 0 rfl) ?_
      refine lv_if_lt (tgt := 42) hx hb dX5_fails_17 (by decide) (fun hc => absurd hc (nI_pos (by omega))) (fun _ => ?_)
      refine lv_iload_n hx hb dX5_fails_20 rfl (lv_at hl 1 rfl) ?_
      refine lv_aload_n hx hb dX5_fails_21 rfl (lv_at hl 4 rfl) ?_
      refine kr_get (T := TX5) (N := 28) hx hb hts hown hK (hm.lv 0 (by decide)) rfl kin_X5_fails_X5 3 (by decide) (by decide +kernel) rfl dX5_fails_22 ?_
      refine lv_iload hx hb dX5_fails_25 (lv_at hl 0 rfl) ?_
      refine kr_zld hx hb hK (hm.lv 2 (by decide)) (j := z) (hz6) (nI_clamp (ks31 (hz6))) (nI_pos (ks31 (hz6))) (x := nI (τ 2 z)) rfl dX5_fails_27 ?_
      refine kr_top (y := bI (τ 2 z == 1)) (nI_b hcb.1) ?_
      refine lv_ior hx hb dX5_fails_28 ?_
      refine kr_top (y := bI (b || τ 2 z == 1)) (bI_or _ _) ?_
      refine lv_istore_n (lv' := [(3, .int (bI (b || τ 2 z == 1))), (4, .int ((nI z))), (2, .int (nI r)), (1, .int (nI i)), (0, .ref (bd 0))]) hx hb dX5_fails_29 rfl hl (by decide) rfl (fun ls hl => ?_)
      refine lv_aload_n hx hb dX5_fails_30 rfl (lv_at hl 4 rfl) ?_
      refine kr_get (T := TX5) (N := 28) hx hb hts hown hK (hm.lv 0 (by decide)) rfl kin_X5_fails_X5 2 (by decide) (by decide +kernel) rfl dX5_fails_31 ?_
      refine lv_iload hx hb dX5_fails_34 (lv_at hl 1 rfl) ?_
      refine kr_ild hx hb hK (hm.lv 1 (by decide)) (j := z) (hz6) (nI_clamp (ks31 (hz6))) (nI_pos (ks31 (hz6))) (x := mI (τ 1 z)) rfl dX5_fails_36 ?_
      refine lv_istore (lv' := [(4, .int (mI (τ 1 z))), (3, .int (bI (b || τ 2 z == 1))), (2, .int (nI r)), (1, .int (nI i)), (0, .ref (bd 0))]) hx hb dX5_fails_37 hl (by decide) rfl (fun ls hl => ?_)
      refine lv_goto (tgt := 15) hx hb dX5_fails_39 (by decide) ?_
      exact ih (τ 1 z) (b || τ 2 z == 1) _ _ (by omega) (by omega) (by rw [← hR]; simp [mUp, Bool.or_assoc, Bool.and_assoc]) hS (lv_sub hl [0, 1, 2, 3, 4] rfl)
theorem kin_X5_isTrusted_X5 : ∀ w ∈ wsX50, w ∈ wsX5_isTrusted := by decide +kernel
set_option maxHeartbeats 4000000 in
set_option maxRecDepth 100000 in
theorem cm_isTrusted (ε : kEnv) (l : Launch) {A : Nat → Prop} {bd : Nat → Nat} {τ : kS} {H : Heap} {i r : Nat} (hm : kM ε A bd τ H) (hB : mB τ) (hi : i < τ 32 0) (hr0 : r < τ 31 0) : kPi ε l yX5_isTrusted wsX5_isTrusted ({ frames := 0, cells := 0, slots := 0, locals := 0 }) [.ref (bd 0), .int (nI i), .int (nI r)] H (bI (mTr τ i r)) := by
  refine kof (cc := cX5_isTrusted) (maxL := 5) (ret := (some .boolean)) (by decide) rfl (Nat.le_of_ble_eq_true rfl) ?_
  intro p e s m below meth c ls S hr hlocks hin hH hE hl
  have S : CallFix p m c cX5_isTrusted 5 s _ wsX5_isTrusted RX5 := S
  have hx := S.1
  have hb := S.2.1
  have hown : s.vm.findClass RX5 = some m.cls := S.2.2.2.1
  have hts := S.2.2.2.2
  have hK := hE.1
  have hS : va_S kNo s.heap H [] := by rw [hH]; exact va_S.rf
  have hAb : ∀ q, kNo q → kHi ε q := fun _ h => h.elim
  have hl : lv_has ls 5 [(0, .ref (bd 0)), (1, .int (nI i)), (2, .int (nI r))] := hl
  have hnR := hB.nR
  have hnC := hB.nC
  have hnW := hB.nW
  have hnA := hB.nA
  have hmn := hB.min
  have hpr := hB.pr (6 * i + r)
  refine lv_aload_n hx hb dX5_isTrusted_0 rfl (lv_at hl 0 rfl) ?_
  refine kr_get (T := TX5) (N := 28) hx hb hts hown hK (hm.lv 0 (by decide)) rfl kin_X5_isTrusted_X5 17 (by decide) (by decide +kernel) rfl dX5_isTrusted_1 ?_
  refine lv_bipush (v := 6) hx hb dX5_isTrusted_4 (by decide) ?_
  refine lv_iload_n hx hb dX5_isTrusted_6 rfl (lv_at hl 1 rfl) ?_
  refine lv_imul hx hb dX5_isTrusted_7 ?_
  refine kr_top (y := nI (6 * i)) (nI_mul 6 i) ?_
  refine lv_iload_n hx hb dX5_isTrusted_8 rfl (lv_at hl 2 rfl) ?_
  refine lv_iadd hx hb dX5_isTrusted_9 ?_
  refine kr_top (y := nI (6 * i + r)) (nI_add _ _) ?_
  refine kr_ild hx hb hK (hm.lv 15 (by decide)) (j := 6 * i + r) ((show 6 * i + r < 48 by omega)) (nI_clamp (ks31 ((show 6 * i + r < 48 by omega)))) (nI_pos (ks31 ((show 6 * i + r < 48 by omega)))) (x := nI (τ 15 (6 * i + r))) rfl dX5_isTrusted_10 ?_
  refine lv_if_le (tgt := 18) hx hb dX5_isTrusted_11 (by decide) (fun hc => ?_) (fun hc => ?_)
  · refine lv_iconst (v := 0) hx hb dX5_isTrusted_18 (by decide) ?_
    refine kr_top (y := bI (decide (0 < τ 15 (6 * i + r)))) (by rw [show decide (0 < τ 15 (6 * i + r)) = false by (rw [decide_eq_false_iff_not]; intro h9; exact nI_nle h9 (by omega) hc)]; rfl) ?_
    refine lv_istore_n (lv' := [(3, .int (bI (decide (0 < τ 15 (6 * i + r))))), (0, .ref (bd 0)), (1, .int (nI i)), (2, .int (nI r))]) hx hb dX5_isTrusted_19 rfl hl (by decide) rfl (fun ls hl => ?_)
    refine lv_iload_n hx hb dX5_isTrusted_20 rfl (lv_at hl 3 rfl) ?_
    refine lv_istore (lv' := [(4, .int (nI r)), (3, .int (bI (decide (0 < τ 15 (6 * i + r))))), (0, .ref (bd 0)), (1, .int (nI i)), (2, .int (nI r))]) hx hb dX5_isTrusted_21 hl (by decide) rfl (fun ls hl => ?_)
    suffices K : ∀ (n z : Nat) (b : Bool) (locs : List Loc) (ls : Array Slot), z ≤ n → z ≤ τ 31 0 → (b && !mUp τ 3 n z) = mTr τ i r → va_S kNo s.heap H locs → lv_has ls 5 [(4, .int (mI z)), (3, .int (bI b)), (2, .int (nI r)), (1, .int (nI i)), (0, .ref (bd 0))] → W p l e ({ frames := 0, cells := 0, slots := 0, locals := 0 }) s m [.ref (bd 0), .int (nI i), .int (nI r)].toArray below meth c H locs 0 0 (MQ below (kQi (fun r9 H9 => r9 = bI (mTr τ i r) ∧ H9 = H) kNo) [.ref (bd 0), .int (nI i), .int (nI r)].toArray s 0 0 kNo) (F0 m 23 ls []) from K 6 (r + 1) _ _ _ (by omega) (by omega) rfl hS (lv_sub hl [0, 1, 4, 3, 2] rfl)
    clear hl hS
    intro n
    induction n with
    | zero =>
      intro z b locs ls hz hzn hR hS hl
      have h0 : z = 0 := by omega
      subst h0
      have hb9 : b = mTr τ i r := by rw [← hR, mUp_0]; cases b <;> rfl
      refine lv_iload hx hb dX5_isTrusted_23 (lv_at hl 0 rfl) ?_
      refine lv_if_lt (tgt := 58) hx hb dX5_isTrusted_25 (by decide) (fun _ => ?_) (fun hc => absurd (by decide) hc)
      refine lv_iload_n hx hb dX5_isTrusted_58 rfl (lv_at hl 1 rfl) ?_
      refine kend_z S hr hlocks hS ⟨by rw [hb9], rfl⟩ (bI_01 _) dX5_isTrusted_59
    | succ n ih =>
      intro z b locs ls hz hzn hR hS hl
      cases z with
      | zero =>
        have hb9 : b = mTr τ i r := by rw [← hR, mUp_0]; cases b <;> rfl
        refine lv_iload hx hb dX5_isTrusted_23 (lv_at hl 0 rfl) ?_
        refine lv_if_lt (tgt := 58) hx hb dX5_isTrusted_25 (by decide) (fun _ => ?_) (fun hc => absurd (by decide) hc)
        refine lv_iload_n hx hb dX5_isTrusted_58 rfl (lv_at hl 1 rfl) ?_
        refine kend_z S hr hlocks hS ⟨by rw [hb9], rfl⟩ (bI_01 _) dX5_isTrusted_59
      | succ z =>
        have hl : lv_has ls 5 [(4, .int (nI z)), (3, .int (bI b)), (2, .int (nI r)), (1, .int (nI i)), (0, .ref (bd 0))] := hl
        have hz6 : z < 6 := by omega
        have hpz := hB.par z (by omega)
        have hcb := hB.cb z
        refine lv_iload hx hb dX5_isTrusted_23 (lv_at hl 0 rfl) ?_
        refine lv_if_lt (tgt := 58) hx hb dX5_isTrusted_25 (by decide) (fun hc => absurd hc (nI_pos (by omega))) (fun _ => ?_)
        refine lv_iload_n hx hb dX5_isTrusted_28 rfl (lv_at hl 1 rfl) ?_
        refine lv_aload_n hx hb dX5_isTrusted_29 rfl (lv_at hl 4 rfl) ?_
        refine kr_get (T := TX5) (N := 28) hx hb hts hown hK (hm.lv 0 (by decide)) rfl kin_X5_isTrusted_X5 4 (by decide) (by decide +kernel) rfl dX5_isTrusted_30 ?_
        refine lv_iload hx hb dX5_isTrusted_33 (lv_at hl 0 rfl) ?_
        refine kr_zld hx hb hK (hm.lv 3 (by decide)) (j := z) (hz6) (nI_clamp (ks31 (hz6))) (nI_pos (ks31 (hz6))) (x := nI (τ 3 z)) rfl dX5_isTrusted_35 ?_
        refine lv_if_ne (tgt := 43) hx hb dX5_isTrusted_36 (by decide) (fun hd => ?_) (fun hd => ?_)
        · refine lv_iconst (v := 0) hx hb dX5_isTrusted_43 (by decide) ?_
          refine kr_top (y := bI (!(τ 3 z == 1))) (by rw [show τ 3 z = 1 from Nat.le_antisymm hcb.2 (Nat.pos_of_ne_zero (fun h => hd (by rw [h]; rfl)))]; rfl) ?_
          refine lv_iand hx hb dX5_isTrusted_44 ?_
          refine kr_top (y := bI (b && !(τ 3 z == 1))) (bI_and _ _) ?_
          refine lv_istore_n (lv' := [(3, .int (bI (b && !(τ 3 z == 1)))), (4, .int ((nI z))), (2, .int (nI r)), (1, .int (nI i)), (0, .ref (bd 0))]) hx hb dX5_isTrusted_45 rfl hl (by decide) rfl (fun ls hl => ?_)
          refine lv_aload_n hx hb dX5_isTrusted_46 rfl (lv_at hl 4 rfl) ?_
          refine kr_get (T := TX5) (N := 28) hx hb hts hown hK (hm.lv 0 (by decide)) rfl kin_X5_isTrusted_X5 2 (by decide) (by decide +kernel) rfl dX5_isTrusted_47 ?_
          refine lv_iload hx hb dX5_isTrusted_50 (lv_at hl 1 rfl) ?_
          refine kr_ild hx hb hK (hm.lv 1 (by decide)) (j := z) (hz6) (nI_clamp (ks31 (hz6))) (nI_pos (ks31 (hz6))) (x := mI (τ 1 z)) rfl dX5_isTrusted_52 ?_
          refine lv_istore (lv' := [(4, .int (mI (τ 1 z))), (3, .int (bI (b && !(τ 3 z == 1)))), (2, .int (nI r)), (1, .int (nI i)), (0, .ref (bd 0))]) hx hb dX5_isTrusted_53 hl (by decide) rfl (fun ls hl => ?_)
          refine lv_goto (tgt := 23) hx hb dX5_isTrusted_55 (by decide) ?_
          exact ih (τ 1 z) (b && !(τ 3 z == 1)) _ _ (by omega) (by omega) (by rw [← hR]; simp [mUp, Bool.or_assoc, Bool.and_assoc]) hS (lv_sub hl [0, 1, 2, 3, 4] rfl)
        · refine lv_iconst (v := 1) hx hb dX5_isTrusted_39 (by decide) ?_
          refine lv_goto (tgt := 44) hx hb dX5_isTrusted_40 (by decide) ?_
          refine kr_top (y := bI (!(τ 3 z == 1))) (by rw [show τ 3 z = 0 from (nI_eq (by omega) (by decide)).mp hd]; rfl) ?_
          refine lv_iand hx hb dX5_isTrusted_44 ?_
          refine kr_top (y := bI (b && !(τ 3 z == 1))) (bI_and _ _) ?_
          refine lv_istore_n (lv' := [(3, .int (bI (b && !(τ 3 z == 1)))), (4, .int ((nI z))), (2, .int (nI r)), (1, .int (nI i)), (0, .ref (bd 0))]) hx hb dX5_isTrusted_45 rfl hl (by decide) rfl (fun ls hl => ?_)
          refine lv_aload_n hx hb dX5_isTrusted_46 rfl (lv_at hl 4 rfl) ?_
          refine kr_get (T := TX5) (N := 28) hx hb hts hown hK (hm.lv 0 (by decide)) rfl kin_X5_isTrusted_X5 2 (by decide) (by decide +kernel) rfl dX5_isTrusted_47 ?_
          refine lv_iload hx hb dX5_isTrusted_50 (lv_at hl 1 rfl) ?_
          refine kr_ild hx hb hK (hm.lv 1 (by decide)) (j := z) (hz6) (nI_clamp (ks31 (hz6))) (nI_pos (ks31 (hz6))) (x := mI (τ 1 z)) rfl dX5_isTrusted_52 ?_
          refine lv_istore (lv' := [(4, .int (mI (τ 1 z))), (3, .int (bI (b && !(τ 3 z == 1)))), (2, .int (nI r)), (1, .int (nI i)), (0, .ref (bd 0))]) hx hb dX5_isTrusted_53 hl (by decide) rfl (fun ls hl => ?_)
          refine lv_goto (tgt := 23) hx hb dX5_isTrusted_55 (by decide) ?_
          exact ih (τ 1 z) (b && !(τ 3 z == 1)) _ _ (by omega) (by omega) (by rw [← hR]; simp [mUp, Bool.or_assoc, Bool.and_assoc]) hS (lv_sub hl [0, 1, 2, 3, 4] rfl)
  · refine lv_iconst (v := 1) hx hb dX5_isTrusted_14 (by decide) ?_
    refine lv_goto (tgt := 19) hx hb dX5_isTrusted_15 (by decide) ?_
    refine kr_top (y := bI (decide (0 < τ 15 (6 * i + r)))) (by rw [show decide (0 < τ 15 (6 * i + r)) = true by (rw [decide_eq_true_iff]; exact Nat.pos_of_ne_zero (fun h => hc (by rw [h]; exact Int32.le_refl _)))]; rfl) ?_
    refine lv_istore_n (lv' := [(3, .int (bI (decide (0 < τ 15 (6 * i + r))))), (0, .ref (bd 0)), (1, .int (nI i)), (2, .int (nI r))]) hx hb dX5_isTrusted_19 rfl hl (by decide) rfl (fun ls hl => ?_)
    refine lv_iload_n hx hb dX5_isTrusted_20 rfl (lv_at hl 3 rfl) ?_
    refine lv_istore (lv' := [(4, .int (nI r)), (3, .int (bI (decide (0 < τ 15 (6 * i + r))))), (0, .ref (bd 0)), (1, .int (nI i)), (2, .int (nI r))]) hx hb dX5_isTrusted_21 hl (by decide) rfl (fun ls hl => ?_)
    suffices K : ∀ (n z : Nat) (b : Bool) (locs : List Loc) (ls : Array Slot), z ≤ n → z ≤ τ 31 0 → (b && !mUp τ 3 n z) = mTr τ i r → va_S kNo s.heap H locs → lv_has ls 5 [(4, .int (mI z)), (3, .int (bI b)), (2, .int (nI r)), (1, .int (nI i)), (0, .ref (bd 0))] → W p l e ({ frames := 0, cells := 0, slots := 0, locals := 0 }) s m [.ref (bd 0), .int (nI i), .int (nI r)].toArray below meth c H locs 0 0 (MQ below (kQi (fun r9 H9 => r9 = bI (mTr τ i r) ∧ H9 = H) kNo) [.ref (bd 0), .int (nI i), .int (nI r)].toArray s 0 0 kNo) (F0 m 23 ls []) from K 6 (r + 1) _ _ _ (by omega) (by omega) rfl hS (lv_sub hl [0, 1, 4, 3, 2] rfl)
    clear hl hS
    intro n
    induction n with
    | zero =>
      intro z b locs ls hz hzn hR hS hl
      have h0 : z = 0 := by omega
      subst h0
      have hb9 : b = mTr τ i r := by rw [← hR, mUp_0]; cases b <;> rfl
      refine lv_iload hx hb dX5_isTrusted_23 (lv_at hl 0 rfl) ?_
      refine lv_if_lt (tgt := 58) hx hb dX5_isTrusted_25 (by decide) (fun _ => ?_) (fun hc => absurd (by decide) hc)
      refine lv_iload_n hx hb dX5_isTrusted_58 rfl (lv_at hl 1 rfl) ?_
      refine kend_z S hr hlocks hS ⟨by rw [hb9], rfl⟩ (bI_01 _) dX5_isTrusted_59
    | succ n ih =>
      intro z b locs ls hz hzn hR hS hl
      cases z with
      | zero =>
        have hb9 : b = mTr τ i r := by rw [← hR, mUp_0]; cases b <;> rfl
        refine lv_iload hx hb dX5_isTrusted_23 (lv_at hl 0 rfl) ?_
        refine lv_if_lt (tgt := 58) hx hb dX5_isTrusted_25 (by decide) (fun _ => ?_) (fun hc => absurd (by decide) hc)
        refine lv_iload_n hx hb dX5_isTrusted_58 rfl (lv_at hl 1 rfl) ?_
        refine kend_z S hr hlocks hS ⟨by rw [hb9], rfl⟩ (bI_01 _) dX5_isTrusted_59
      | succ z =>
        have hl : lv_has ls 5 [(4, .int (nI z)), (3, .int (bI b)), (2, .int (nI r)), (1, .int (nI i)), (0, .ref (bd 0))] := hl
        have hz6 : z < 6 := by omega
        have hpz := hB.par z (by omega)
        have hcb := hB.cb z
        refine lv_iload hx hb dX5_isTrusted_23 (lv_at hl 0 rfl) ?_
        refine lv_if_lt (tgt := 58) hx hb dX5_isTrusted_25 (by decide) (fun hc => absurd hc (nI_pos (by omega))) (fun _ => ?_)
        refine lv_iload_n hx hb dX5_isTrusted_28 rfl (lv_at hl 1 rfl) ?_
        refine lv_aload_n hx hb dX5_isTrusted_29 rfl (lv_at hl 4 rfl) ?_
        refine kr_get (T := TX5) (N := 28) hx hb hts hown hK (hm.lv 0 (by decide)) rfl kin_X5_isTrusted_X5 4 (by decide) (by decide +kernel) rfl dX5_isTrusted_30 ?_
        refine lv_iload hx hb dX5_isTrusted_33 (lv_at hl 0 rfl) ?_
        refine kr_zld hx hb hK (hm.lv 3 (by decide)) (j := z) (hz6) (nI_clamp (ks31 (hz6))) (nI_pos (ks31 (hz6))) (x := nI (τ 3 z)) rfl dX5_isTrusted_35 ?_
        refine lv_if_ne (tgt := 43) hx hb dX5_isTrusted_36 (by decide) (fun hd => ?_) (fun hd => ?_)
        · refine lv_iconst (v := 0) hx hb dX5_isTrusted_43 (by decide) ?_
          refine kr_top (y := bI (!(τ 3 z == 1))) (by rw [show τ 3 z = 1 from Nat.le_antisymm hcb.2 (Nat.pos_of_ne_zero (fun h => hd (by rw [h]; rfl)))]; rfl) ?_
          refine lv_iand hx hb dX5_isTrusted_44 ?_
          refine kr_top (y := bI (b && !(τ 3 z == 1))) (bI_and _ _) ?_
          refine lv_istore_n (lv' := [(3, .int (bI (b && !(τ 3 z == 1)))), (4, .int ((nI z))), (2, .int (nI r)), (1, .int (nI i)), (0, .ref (bd 0))]) hx hb dX5_isTrusted_45 rfl hl (by decide) rfl (fun ls hl => ?_)
          refine lv_aload_n hx hb dX5_isTrusted_46 rfl (lv_at hl 4 rfl) ?_
          refine kr_get (T := TX5) (N := 28) hx hb hts hown hK (hm.lv 0 (by decide)) rfl kin_X5_isTrusted_X5 2 (by decide) (by decide +kernel) rfl dX5_isTrusted_47 ?_
          refine lv_iload hx hb dX5_isTrusted_50 (lv_at hl 1 rfl) ?_
          refine kr_ild hx hb hK (hm.lv 1 (by decide)) (j := z) (hz6) (nI_clamp (ks31 (hz6))) (nI_pos (ks31 (hz6))) (x := mI (τ 1 z)) rfl dX5_isTrusted_52 ?_
          refine lv_istore (lv' := [(4, .int (mI (τ 1 z))), (3, .int (bI (b && !(τ 3 z == 1)))), (2, .int (nI r)), (1, .int (nI i)), (0, .ref (bd 0))]) hx hb dX5_isTrusted_53 hl (by decide) rfl (fun ls hl => ?_)
          refine lv_goto (tgt := 23) hx hb dX5_isTrusted_55 (by decide) ?_
          exact ih (τ 1 z) (b && !(τ 3 z == 1)) _ _ (by omega) (by omega) (by rw [← hR]; simp [mUp, Bool.or_assoc, Bool.and_assoc]) hS (lv_sub hl [0, 1, 2, 3, 4] rfl)
        · refine lv_iconst (v := 1) hx hb dX5_isTrusted_39 (by decide) ?_
          refine lv_goto (tgt := 44) hx hb dX5_isTrusted_40 (by decide) ?_
          refine kr_top (y := bI (!(τ 3 z == 1))) (by rw [show τ 3 z = 0 from (nI_eq (by omega) (by decide)).mp hd]; rfl) ?_
          refine lv_iand hx hb dX5_isTrusted_44 ?_
          refine kr_top (y := bI (b && !(τ 3 z == 1))) (bI_and _ _) ?_
          refine lv_istore_n (lv' := [(3, .int (bI (b && !(τ 3 z == 1)))), (4, .int ((nI z))), (2, .int (nI r)), (1, .int (nI i)), (0, .ref (bd 0))]) hx hb dX5_isTrusted_45 rfl hl (by decide) rfl (fun ls hl => ?_)
          refine lv_aload_n hx hb dX5_isTrusted_46 rfl (lv_at hl 4 rfl) ?_
          refine kr_get (T := TX5) (N := 28) hx hb hts hown hK (hm.lv 0 (by decide)) rfl kin_X5_isTrusted_X5 2 (by decide) (by decide +kernel) rfl dX5_isTrusted_47 ?_
          refine lv_iload hx hb dX5_isTrusted_50 (lv_at hl 1 rfl) ?_
          refine kr_ild hx hb hK (hm.lv 1 (by decide)) (j := z) (hz6) (nI_clamp (ks31 (hz6))) (nI_pos (ks31 (hz6))) (x := mI (τ 1 z)) rfl dX5_isTrusted_52 ?_
          refine lv_istore (lv' := [(4, .int (mI (τ 1 z))), (3, .int (bI (b && !(τ 3 z == 1)))), (2, .int (nI r)), (1, .int (nI i)), (0, .ref (bd 0))]) hx hb dX5_isTrusted_53 hl (by decide) rfl (fun ls hl => ?_)
          refine lv_goto (tgt := 23) hx hb dX5_isTrusted_55 (by decide) ?_
          exact ih (τ 1 z) (b && !(τ 3 z == 1)) _ _ (by omega) (by omega) (by rw [← hR]; simp [mUp, Bool.or_assoc, Bool.and_assoc]) hS (lv_sub hl [0, 1, 2, 3, 4] rfl)
theorem kin_X5_isScheduled_X5 : ∀ w ∈ wsX50, w ∈ wsX5_isScheduled := by decide +kernel
set_option maxHeartbeats 4000000 in
set_option maxRecDepth 100000 in
theorem cm_isSch (ε : kEnv) (l : Launch) {A : Nat → Prop} {bd : Nat → Nat} {τ : kS} {H : Heap} {i r t : Nat} (hm : kM ε A bd τ H) (hB : mB τ) (hi : i < τ 32 0) (hr0 : r < τ 31 0) (ht : t ≤ 200000) : kPi ε l yX5_isScheduled wsX5_isScheduled ({ frames := 0, cells := 0, slots := 0, locals := 0 }) [.ref (bd 0), .int (nI i), .int (nI r), .int (nI t)] H (bI (mSch τ i r t)) := by
  refine kof (cc := cX5_isScheduled) (maxL := 5) (ret := (some .boolean)) (by decide) rfl (Nat.le_of_ble_eq_true rfl) ?_
  intro p e s m below meth c ls S hr hlocks hin hH hE hl
  have S : CallFix p m c cX5_isScheduled 5 s _ wsX5_isScheduled RX5 := S
  have hx := S.1
  have hb := S.2.1
  have hown : s.vm.findClass RX5 = some m.cls := S.2.2.2.1
  have hts := S.2.2.2.2
  have hK := hE.1
  have hS : va_S kNo s.heap H [] := by rw [hH]; exact va_S.rf
  have hAb : ∀ q, kNo q → kHi ε q := fun _ h => h.elim
  have hl : lv_has ls 5 [(0, .ref (bd 0)), (1, .int (nI i)), (2, .int (nI r)), (3, .int (nI t))] := hl
  have hnR := hB.nR
  have hnC := hB.nC
  have hnW := hB.nW
  have hnA := hB.nA
  have hmn := hB.min
  have hck := hB.ck i hi
  refine lv_iload_n hx hb dX5_isScheduled_0 rfl (lv_at hl 3 rfl) ?_
  refine lv_aload_n hx hb dX5_isScheduled_1 rfl (lv_at hl 0 rfl) ?_
  refine kr_get (T := TX5) (N := 28) hx hb hts hown hK (hm.lv 0 (by decide)) rfl kin_X5_isScheduled_X5 9 (by decide) (by decide +kernel) rfl dX5_isScheduled_2 ?_
  refine lv_iload_n hx hb dX5_isScheduled_5 rfl (lv_at hl 1 rfl) ?_
  refine kr_ild hx hb hK (hm.lv 7 (by decide)) (j := i) ((show i < 8 by omega)) (nI_clamp (ks31 ((show i < 8 by omega)))) (nI_pos (ks31 ((show i < 8 by omega)))) (x := nI (τ 7 i)) rfl dX5_isScheduled_6 ?_
  refine lv_isub hx hb dX5_isScheduled_7 ?_
  refine lv_iload_n hx hb dX5_isScheduled_8 rfl (lv_at hl 2 rfl) ?_
  refine lv_isub hx hb dX5_isScheduled_9 ?_
  refine kr_top (y := nI t - nI (τ 7 i + r)) (ksub2 _ _ _) ?_
  refine lv_istore (lv' := [(4, .int (nI t - nI (τ 7 i + r))), (0, .ref (bd 0)), (1, .int (nI i)), (2, .int (nI r)), (3, .int (nI t))]) hx hb dX5_isScheduled_10 hl (by decide) rfl (fun ls hl => ?_)
  refine lv_iload hx hb dX5_isScheduled_12 (lv_at hl 0 rfl) ?_
  refine lv_if_lt (tgt := 33) hx hb dX5_isScheduled_14 (by decide) (fun hc => ?_) (fun hc => ?_)
  · refine lv_iconst (v := 0) hx hb dX5_isScheduled_33 (by decide) ?_
    refine kend_z S hr hlocks hS ⟨by rw [show mSch τ i r t = false by (unfold mSch; rw [show decide (τ 7 i + r ≤ t) = false from decide_eq_false (fun h9 => by rw [ksub h9] at hc; exact nI_pos (by omega) hc)]; rfl)]; rfl, rfl⟩ (Or.inl rfl) dX5_isScheduled_34
  · have h9 : τ 7 i + r ≤ t := Nat.le_of_not_lt (fun h => hc (kneg h (by omega)))
    refine lv_iload hx hb dX5_isScheduled_17 (lv_at hl 0 rfl) ?_
    refine kr_top (y := nI (t - (τ 7 i + r))) (ksub h9) ?_
    refine lv_aload_n hx hb dX5_isScheduled_19 rfl (lv_at hl 1 rfl) ?_
    refine kr_get (T := TX5) (N := 28) hx hb hts hown hK (hm.lv 0 (by decide)) rfl kin_X5_isScheduled_X5 8 (by decide) (by decide +kernel) rfl dX5_isScheduled_20 ?_
    refine lv_iload_n hx hb dX5_isScheduled_23 rfl (lv_at hl 2 rfl) ?_
    refine kr_ild hx hb hK (hm.lv 6 (by decide)) (j := i) ((show i < 8 by omega)) (nI_clamp (ks31 ((show i < 8 by omega)))) (nI_pos (ks31 ((show i < 8 by omega)))) (x := nI (τ 6 i)) rfl dX5_isScheduled_24 ?_
    refine lv_irem hx hb dX5_isScheduled_25 (nI_ne0 (by omega) (by omega)) ?_
    refine kr_top (y := nI ((t - (τ 7 i + r)) % τ 6 i)) (pk_rem (by omega) (by omega) (by omega)) ?_
    have hlt9 := Nat.mod_lt (t - (τ 7 i + r)) (show 0 < τ 6 i by omega)
    refine lv_if_ne (tgt := 33) hx hb dX5_isScheduled_26 (by decide) (fun hd => ?_) (fun hd => ?_)
    · refine lv_iconst (v := 0) hx hb dX5_isScheduled_33 (by decide) ?_
      refine kend_z S hr hlocks hS ⟨by rw [show mSch τ i r t = false by (unfold mSch; rw [decide_eq_true h9, show ((t - (τ 7 i + r)) % τ 6 i == 0) = false by simpa using fun h : (t - (τ 7 i + r)) % τ 6 i = 0 => hd (by rw [h]; rfl)]; rfl)]; rfl, rfl⟩ (Or.inl rfl) dX5_isScheduled_34
    · refine lv_iconst (v := 1) hx hb dX5_isScheduled_29 (by decide) ?_
      refine lv_goto (tgt := 34) hx hb dX5_isScheduled_30 (by decide) ?_
      refine kend_z S hr hlocks hS ⟨by rw [show mSch τ i r t = true by (unfold mSch; rw [decide_eq_true h9, (nI_eq (by omega) (by decide)).mp hd]; rfl)]; rfl, rfl⟩ (Or.inr rfl) dX5_isScheduled_34
theorem kin_X5_votesOf_X5 : ∀ w ∈ wsX50, w ∈ wsX5_votesOf := by decide +kernel
set_option maxHeartbeats 4000000 in
set_option maxRecDepth 100000 in
theorem cm_votesOf (ε : kEnv) (l : Launch) {A : Nat → Prop} {bd : Nat → Nat} {τ : kS} {H : Heap} {r t : Nat} (hm : kM ε A bd τ H) (hB : mB τ) (hr0 : r < τ 31 0) (ht : t ≤ 2) : kPi ε l yX5_votesOf wsX5_votesOf ({ frames := 0, cells := 0, slots := 0, locals := 0 }) [.ref (bd 0), .int (nI r), .int (nI t)] H (nI (kcnt (fun c => τ 15 (6 * c + r) == t) ((τ 32 0)))) := by
  refine kof (cc := cX5_votesOf) (maxL := 5) (ret := (some .int)) (by decide) rfl (Nat.le_of_ble_eq_true rfl) ?_
  intro p e s m below meth c ls S hr hlocks hin hH hE hl
  have S : CallFix p m c cX5_votesOf 5 s _ wsX5_votesOf RX5 := S
  have hx := S.1
  have hb := S.2.1
  have hown : s.vm.findClass RX5 = some m.cls := S.2.2.2.1
  have hts := S.2.2.2.2
  have hK := hE.1
  have hS : va_S kNo s.heap H [] := by rw [hH]; exact va_S.rf
  have hAb : ∀ q, kNo q → kHi ε q := fun _ h => h.elim
  have hl : lv_has ls 5 [(0, .ref (bd 0)), (1, .int (nI r)), (2, .int (nI t))] := hl
  have hnR := hB.nR
  have hnC := hB.nC
  have hnW := hB.nW
  have hnA := hB.nA
  have hmn := hB.min
  refine lv_iconst (v := 0) hx hb dX5_votesOf_0 (by decide) ?_
  refine lv_istore_n (lv' := [(3, .int 0), (0, .ref (bd 0)), (1, .int (nI r)), (2, .int (nI t))]) hx hb dX5_votesOf_1 rfl hl (by decide) rfl (fun ls hl => ?_)
  refine lv_iconst (v := 0) hx hb dX5_votesOf_2 (by decide) ?_
  refine lv_istore (lv' := [(4, .int 0), (3, .int 0), (0, .ref (bd 0)), (1, .int (nI r)), (2, .int (nI t))]) hx hb dX5_votesOf_3 hl (by decide) rfl (fun ls hl => ?_)
  suffices K : ∀ (n k : Nat) (locs : List Loc) (ls : Array Slot), k + n = τ 32 0 → va_S kNo s.heap H locs → lv_has ls 5 [(4, .int (nI k)), (3, .int (nI (kcnt (fun c => τ 15 (6 * c + r) == t) k))), (2, .int (nI t)), (1, .int (nI r)), (0, .ref (bd 0))] → W p l e ({ frames := 0, cells := 0, slots := 0, locals := 0 }) s m [.ref (bd 0), .int (nI r), .int (nI t)].toArray below meth c H locs 0 0 (MQ below (kQi (fun r9 H9 => r9 = nI (kcnt (fun c => τ 15 (6 * c + r) == t) ((τ 32 0))) ∧ H9 = H) kNo) [.ref (bd 0), .int (nI r), .int (nI t)].toArray s 0 0 kNo) (F0 m 5 ls []) from K (τ 32 0) 0 _ _ (Nat.zero_add _) hS (lv_sub hl [0, 1, 4, 3, 2] rfl)
  clear hl hS
  intro n
  induction n with
  | zero =>
    intro k locs ls hkn  hS hl
    have hkN : k = τ 32 0 := hkn
    clear hkn
    refine lv_iload hx hb dX5_votesOf_5 (lv_at hl 0 rfl) ?_
    refine lv_aload_n hx hb dX5_votesOf_7 rfl (lv_at hl 4 rfl) ?_
    refine kr_get (T := TX5) (N := 28) hx hb hts hown hK (hm.lv 0 (by decide)) rfl kin_X5_votesOf_X5 7 (by decide) (by decide +kernel) rfl dX5_votesOf_8 ?_
    refine lv_icmp_ge (tgt := 44) hx hb dX5_votesOf_11 (by decide) (fun _ => ?_) (fun hc => absurd (by rw [hkN]; exact Int32.le_refl _) hc)
    refine lv_iload_n hx hb dX5_votesOf_44 rfl (lv_at hl 1 rfl) ?_
    refine kend_i S hr hlocks hS ⟨by rw [hkN], rfl⟩ dX5_votesOf_45
  | succ n ih =>
    intro k locs ls hkn  hS hl
    have hlt : k < τ 32 0 := by omega
    have hpr := hB.pr (6 * k + r)
    refine lv_iload hx hb dX5_votesOf_5 (lv_at hl 0 rfl) ?_
    refine lv_aload_n hx hb dX5_votesOf_7 rfl (lv_at hl 4 rfl) ?_
    refine kr_get (T := TX5) (N := 28) hx hb hts hown hK (hm.lv 0 (by decide)) rfl kin_X5_votesOf_X5 7 (by decide) (by decide +kernel) rfl dX5_votesOf_8 ?_
    refine lv_icmp_ge (tgt := 44) hx hb dX5_votesOf_11 (by decide) (fun hc => absurd hc (nI_ge hlt (by omega))) (fun _ => ?_)
    refine lv_iload_n hx hb dX5_votesOf_14 rfl (lv_at hl 1 rfl) ?_
    refine lv_aload_n hx hb dX5_votesOf_15 rfl (lv_at hl 4 rfl) ?_
    refine kr_get (T := TX5) (N := 28) hx hb hts hown hK (hm.lv 0 (by decide)) rfl kin_X5_votesOf_X5 17 (by decide) (by decide +kernel) rfl dX5_votesOf_16 ?_
    refine lv_bipush (v := 6) hx hb dX5_votesOf_19 (by decide) ?_
    refine lv_iload hx hb dX5_votesOf_21 (lv_at hl 0 rfl) ?_
    refine lv_imul hx hb dX5_votesOf_23 ?_
    refine kr_top (y := nI (6 * k)) (nI_mul 6 k) ?_
    refine lv_iload_n hx hb dX5_votesOf_24 rfl (lv_at hl 3 rfl) ?_
    refine lv_iadd hx hb dX5_votesOf_25 ?_
    refine kr_top (y := nI (6 * k + r)) (nI_add _ _) ?_
    refine kr_ild hx hb hK (hm.lv 15 (by decide)) (j := 6 * k + r) ((show 6 * k + r < 48 by omega)) (nI_clamp (ks31 ((show 6 * k + r < 48 by omega)))) (nI_pos (ks31 ((show 6 * k + r < 48 by omega)))) (x := nI (τ 15 (6 * k + r))) rfl dX5_votesOf_26 ?_
    refine lv_iload_n hx hb dX5_votesOf_27 rfl (lv_at hl 2 rfl) ?_
    refine lv_icmp_ne (tgt := 35) hx hb dX5_votesOf_28 (by decide) (fun hc => ?_) (fun hc => ?_)
    · refine lv_iconst (v := 0) hx hb dX5_votesOf_35 (by decide) ?_
      refine lv_iadd hx hb dX5_votesOf_36 ?_
      refine kr_top (y := nI (kcnt (fun c => τ 15 (6 * c + r) == t) (k + 1))) (by rw [kcnt_f (by simpa using fun h : τ 15 (6 * k + r) = t => hc (by rw [h]))]; exact Int32.add_zero _) ?_
      refine lv_istore_n (lv' := [(3, .int (nI (kcnt (fun c => τ 15 (6 * c + r) == t) (k + 1)))), (4, .int (nI k)), (2, .int (nI t)), (1, .int (nI r)), (0, .ref (bd 0))]) hx hb dX5_votesOf_37 rfl hl (by decide) rfl (fun ls hl => ?_)
      refine lv_iinc (v := nI (k + 1)) (lv' := [(4, .int (nI (k + 1))), (3, .int (nI (kcnt (fun c => τ 15 (6 * c + r) == t) (k + 1)))), (2, .int (nI t)), (1, .int (nI r)), (0, .ref (bd 0))]) hx hb dX5_votesOf_38 hl (k := 1) rfl (nI_1 k) (by decide) rfl (fun ls hl => ?_)
      refine lv_goto (tgt := 5) hx hb dX5_votesOf_41 (by decide) ?_
      exact ih (k + 1) _ _ (by omega) hS (lv_sub hl [0, 1, 2, 3, 4] rfl)
    · refine lv_iconst (v := 1) hx hb dX5_votesOf_31 (by decide) ?_
      refine lv_goto (tgt := 36) hx hb dX5_votesOf_32 (by decide) ?_
      refine lv_iadd hx hb dX5_votesOf_36 ?_
      refine kr_top (y := nI (kcnt (fun c => τ 15 (6 * c + r) == t) (k + 1))) (by rw [kcnt_t (by simpa using (nI_eq (by omega) (by omega)).mp hc)]; exact nI_1 _) ?_
      refine lv_istore_n (lv' := [(3, .int (nI (kcnt (fun c => τ 15 (6 * c + r) == t) (k + 1)))), (4, .int (nI k)), (2, .int (nI t)), (1, .int (nI r)), (0, .ref (bd 0))]) hx hb dX5_votesOf_37 rfl hl (by decide) rfl (fun ls hl => ?_)
      refine lv_iinc (v := nI (k + 1)) (lv' := [(4, .int (nI (k + 1))), (3, .int (nI (kcnt (fun c => τ 15 (6 * c + r) == t) (k + 1)))), (2, .int (nI t)), (1, .int (nI r)), (0, .ref (bd 0))]) hx hb dX5_votesOf_38 hl (k := 1) rfl (nI_1 k) (by decide) rfl (fun ls hl => ?_)
      refine lv_goto (tgt := 5) hx hb dX5_votesOf_41 (by decide) ?_
      exact ih (k + 1) _ _ (by omega) hS (lv_sub hl [0, 1, 2, 3, 4] rfl)
theorem kin_X5_isMaintained_X5 : ∀ w ∈ wsX50, w ∈ wsX5_isMaintained := by decide +kernel
set_option maxHeartbeats 4000000 in
set_option maxRecDepth 100000 in
theorem cm_isMnt (ε : kEnv) (l : Launch) {A : Nat → Prop} {bd : Nat → Nat} {τ : kS} {H : Heap} {i : Nat} (hm : kM ε A bd τ H) (hB : mB τ) (hi : i < τ 32 0) : kPi ε l yX5_isMaintained wsX5_isMaintained ({ frames := 0, cells := 0, slots := 0, locals := 0 }) [.ref (bd 0), .int (nI i)] H (bI (mMt τ i (τ 33 0))) := by
  refine kof (cc := cX5_isMaintained) (maxL := 4) (ret := (some .boolean)) (by decide) rfl (Nat.le_of_ble_eq_true rfl) ?_
  intro p e s m below meth c ls S hr hlocks hin hH hE hl
  have S : CallFix p m c cX5_isMaintained 4 s _ wsX5_isMaintained RX5 := S
  have hx := S.1
  have hb := S.2.1
  have hown : s.vm.findClass RX5 = some m.cls := S.2.2.2.1
  have hts := S.2.2.2.2
  have hK := hE.1
  have hS : va_S kNo s.heap H [] := by rw [hH]; exact va_S.rf
  have hAb : ∀ q, kNo q → kHi ε q := fun _ h => h.elim
  have hl : lv_has ls 4 [(0, .ref (bd 0)), (1, .int (nI i))] := hl
  have hnR := hB.nR
  have hnC := hB.nC
  have hnW := hB.nW
  have hnA := hB.nA
  have hmn := hB.min
  refine lv_iconst (v := 0) hx hb dX5_isMaintained_0 (by decide) ?_
  refine lv_istore_n (lv' := [(2, .int 0), (0, .ref (bd 0)), (1, .int (nI i))]) hx hb dX5_isMaintained_1 rfl hl (by decide) rfl (fun ls hl => ?_)
  refine lv_iconst (v := 0) hx hb dX5_isMaintained_2 (by decide) ?_
  refine lv_istore_n (lv' := [(3, .int 0), (2, .int 0), (0, .ref (bd 0)), (1, .int (nI i))]) hx hb dX5_isMaintained_3 rfl hl (by decide) rfl (fun ls hl => ?_)
  suffices K : ∀ (n k : Nat) (locs : List Loc) (ls : Array Slot), k + n = τ 33 0 → va_S kNo s.heap H locs → lv_has ls 4 [(3, .int (nI k)), (2, .int (bI (mMt τ i k))), (1, .int (nI i)), (0, .ref (bd 0))] → W p l e ({ frames := 0, cells := 0, slots := 0, locals := 0 }) s m [.ref (bd 0), .int (nI i)].toArray below meth c H locs 0 0 (MQ below (kQi (fun r9 H9 => r9 = bI (mMt τ i (τ 33 0)) ∧ H9 = H) kNo) [.ref (bd 0), .int (nI i)].toArray s 0 0 kNo) (F0 m 4 ls []) from K (τ 33 0) 0 _ _ (Nat.zero_add _) hS (lv_sub hl [0, 1, 3, 2] rfl)
  clear hl hS
  intro n
  induction n with
  | zero =>
    intro k locs ls hkn  hS hl
    have hkN : k = τ 33 0 := hkn
    clear hkn
    refine lv_iload_n hx hb dX5_isMaintained_4 rfl (lv_at hl 0 rfl) ?_
    refine lv_aload_n hx hb dX5_isMaintained_5 rfl (lv_at hl 3 rfl) ?_
    refine kr_get (T := TX5) (N := 28) hx hb hts hown hK (hm.lv 0 (by decide)) rfl kin_X5_isMaintained_X5 20 (by decide) (by decide +kernel) rfl dX5_isMaintained_6 ?_
    refine lv_icmp_ge (tgt := 62) hx hb dX5_isMaintained_9 (by decide) (fun _ => ?_) (fun hc => absurd (by rw [hkN]; exact Int32.le_refl _) hc)
    refine lv_iload_n hx hb dX5_isMaintained_62 rfl (lv_at hl 1 rfl) ?_
    refine kend_z S hr hlocks hS ⟨by rw [hkN], rfl⟩ (bI_01 _) dX5_isMaintained_63
  | succ n ih =>
    intro k locs ls hkn  hS hl
    have hlt : k < τ 33 0 := by omega
    have hwn := hB.wn k hlt
    have hk12 : k < 12 := by omega
    refine lv_iload_n hx hb dX5_isMaintained_4 rfl (lv_at hl 0 rfl) ?_
    refine lv_aload_n hx hb dX5_isMaintained_5 rfl (lv_at hl 3 rfl) ?_
    refine kr_get (T := TX5) (N := 28) hx hb hts hown hK (hm.lv 0 (by decide)) rfl kin_X5_isMaintained_X5 20 (by decide) (by decide +kernel) rfl dX5_isMaintained_6 ?_
    refine lv_icmp_ge (tgt := 62) hx hb dX5_isMaintained_9 (by decide) (fun hc => absurd hc (nI_ge hlt (by omega))) (fun _ => ?_)
    refine lv_iload_n hx hb dX5_isMaintained_12 rfl (lv_at hl 1 rfl) ?_
    refine lv_aload_n hx hb dX5_isMaintained_13 rfl (lv_at hl 3 rfl) ?_
    refine kr_get (T := TX5) (N := 28) hx hb hts hown hK (hm.lv 0 (by decide)) rfl kin_X5_isMaintained_X5 21 (by decide) (by decide +kernel) rfl dX5_isMaintained_14 ?_
    refine lv_iload_n hx hb dX5_isMaintained_17 rfl (lv_at hl 0 rfl) ?_
    refine kr_ild hx hb hK (hm.lv 18 (by decide)) (j := k) (hk12) (nI_clamp (ks31 (hk12))) (nI_pos (ks31 (hk12))) (x := nI (τ 18 k)) rfl dX5_isMaintained_18 ?_
    refine lv_iload_n hx hb dX5_isMaintained_19 rfl (lv_at hl 2 rfl) ?_
    refine lv_icmp_ne (tgt := 53) hx hb dX5_isMaintained_20 (by decide) (fun hc => ?_) (fun hc => ?_)
    · refine lv_iconst (v := 0) hx hb dX5_isMaintained_53 (by decide) ?_
      refine kr_top (y := bI false) (rfl) ?_
      refine lv_ior hx hb dX5_isMaintained_54 ?_
      refine kr_top (y := bI (mMt τ i (k + 1))) (by rw [bI_or]; exact congrArg bI (by show _ = (mMt τ i k || _); rw [show (τ 18 k == i) = false by simpa using fun h : τ 18 k = i => hc (by rw [h])]; simp only [Bool.false_and])) ?_
      refine lv_istore_n (lv' := [(2, .int (bI (mMt τ i (k + 1)))), (3, .int (nI k)), (1, .int (nI i)), (0, .ref (bd 0))]) hx hb dX5_isMaintained_55 rfl hl (by decide) rfl (fun ls hl => ?_)
      refine lv_iinc (v := nI (k + 1)) (lv' := [(3, .int (nI (k + 1))), (2, .int (bI (mMt τ i (k + 1)))), (1, .int (nI i)), (0, .ref (bd 0))]) hx hb dX5_isMaintained_56 hl (k := 1) rfl (nI_1 k) (by decide) rfl (fun ls hl => ?_)
      refine lv_goto (tgt := 4) hx hb dX5_isMaintained_59 (by decide) ?_
      exact ih (k + 1) _ _ (by omega) hS (lv_sub hl [0, 1, 2, 3] rfl)
    · have h1 : τ 18 k = i := (nI_eq (by omega) (by omega)).mp hc
      refine lv_aload_n hx hb dX5_isMaintained_23 rfl (lv_at hl 3 rfl) ?_
      refine kr_get (T := TX5) (N := 28) hx hb hts hown hK (hm.lv 0 (by decide)) rfl kin_X5_isMaintained_X5 22 (by decide) (by decide +kernel) rfl dX5_isMaintained_24 ?_
      refine lv_iload_n hx hb dX5_isMaintained_27 rfl (lv_at hl 0 rfl) ?_
      refine kr_ild hx hb hK (hm.lv 19 (by decide)) (j := k) (hk12) (nI_clamp (ks31 (hk12))) (nI_pos (ks31 (hk12))) (x := nI (τ 19 k)) rfl dX5_isMaintained_28 ?_
      refine lv_aload_n hx hb dX5_isMaintained_29 rfl (lv_at hl 3 rfl) ?_
      refine kr_get (T := TX5) (N := 28) hx hb hts hown hK (hm.lv 0 (by decide)) rfl kin_X5_isMaintained_X5 0 (by decide) (by decide +kernel) rfl dX5_isMaintained_30 ?_
      refine lv_icmp_gt (tgt := 53) hx hb dX5_isMaintained_33 (by decide) (fun hd => ?_) (fun hd => ?_)
      · refine lv_iconst (v := 0) hx hb dX5_isMaintained_53 (by decide) ?_
        refine kr_top (y := bI false) (rfl) ?_
        refine lv_ior hx hb dX5_isMaintained_54 ?_
        refine kr_top (y := bI (mMt τ i (k + 1))) (by rw [bI_or]; exact congrArg bI (by show _ = (mMt τ i k || _); rw [show decide (τ 19 k ≤ τ 30 0) = false from decide_eq_false (fun h => Int32.not_lt.mpr (nI_le h (by omega)) hd)]; simp only [Bool.and_false, Bool.false_and])) ?_
        refine lv_istore_n (lv' := [(2, .int (bI (mMt τ i (k + 1)))), (3, .int (nI k)), (1, .int (nI i)), (0, .ref (bd 0))]) hx hb dX5_isMaintained_55 rfl hl (by decide) rfl (fun ls hl => ?_)
        refine lv_iinc (v := nI (k + 1)) (lv' := [(3, .int (nI (k + 1))), (2, .int (bI (mMt τ i (k + 1)))), (1, .int (nI i)), (0, .ref (bd 0))]) hx hb dX5_isMaintained_56 hl (k := 1) rfl (nI_1 k) (by decide) rfl (fun ls hl => ?_)
        refine lv_goto (tgt := 4) hx hb dX5_isMaintained_59 (by decide) ?_
        exact ih (k + 1) _ _ (by omega) hS (lv_sub hl [0, 1, 2, 3] rfl)
      · have h2 : τ 19 k ≤ τ 30 0 := Nat.le_of_not_lt (fun h => hd (nI_lt h (by omega)))
        refine lv_aload_n hx hb dX5_isMaintained_36 rfl (lv_at hl 3 rfl) ?_
        refine kr_get (T := TX5) (N := 28) hx hb hts hown hK (hm.lv 0 (by decide)) rfl kin_X5_isMaintained_X5 0 (by decide) (by decide +kernel) rfl dX5_isMaintained_37 ?_
        refine lv_aload_n hx hb dX5_isMaintained_40 rfl (lv_at hl 3 rfl) ?_
        refine kr_get (T := TX5) (N := 28) hx hb hts hown hK (hm.lv 0 (by decide)) rfl kin_X5_isMaintained_X5 23 (by decide) (by decide +kernel) rfl dX5_isMaintained_41 ?_
        refine lv_iload_n hx hb dX5_isMaintained_44 rfl (lv_at hl 0 rfl) ?_
        refine kr_ild hx hb hK (hm.lv 20 (by decide)) (j := k) (hk12) (nI_clamp (ks31 (hk12))) (nI_pos (ks31 (hk12))) (x := nI (τ 20 k)) rfl dX5_isMaintained_45 ?_
        refine lv_icmp_ge (tgt := 53) hx hb dX5_isMaintained_46 (by decide) (fun he => ?_) (fun he => ?_)
        · refine lv_iconst (v := 0) hx hb dX5_isMaintained_53 (by decide) ?_
          refine kr_top (y := bI false) (rfl) ?_
          refine lv_ior hx hb dX5_isMaintained_54 ?_
          refine kr_top (y := bI (mMt τ i (k + 1))) (by rw [bI_or]; exact congrArg bI (by show _ = (mMt τ i k || _); rw [show decide (τ 30 0 < τ 20 k) = false from decide_eq_false (fun h => nI_ge h (by omega) he)]; simp only [Bool.and_false])) ?_
          refine lv_istore_n (lv' := [(2, .int (bI (mMt τ i (k + 1)))), (3, .int (nI k)), (1, .int (nI i)), (0, .ref (bd 0))]) hx hb dX5_isMaintained_55 rfl hl (by decide) rfl (fun ls hl => ?_)
          refine lv_iinc (v := nI (k + 1)) (lv' := [(3, .int (nI (k + 1))), (2, .int (bI (mMt τ i (k + 1)))), (1, .int (nI i)), (0, .ref (bd 0))]) hx hb dX5_isMaintained_56 hl (k := 1) rfl (nI_1 k) (by decide) rfl (fun ls hl => ?_)
          refine lv_goto (tgt := 4) hx hb dX5_isMaintained_59 (by decide) ?_
          exact ih (k + 1) _ _ (by omega) hS (lv_sub hl [0, 1, 2, 3] rfl)
        · have h3 : τ 30 0 < τ 20 k := Nat.lt_of_not_le (fun h => he (nI_le h (by omega)))
          refine lv_iconst (v := 1) hx hb dX5_isMaintained_49 (by decide) ?_
          refine lv_goto (tgt := 54) hx hb dX5_isMaintained_50 (by decide) ?_
          refine kr_top (y := bI true) (rfl) ?_
          refine lv_ior hx hb dX5_isMaintained_54 ?_
          refine kr_top (y := bI (mMt τ i (k + 1))) (by rw [bI_or]; exact congrArg bI (by show _ = (mMt τ i k || _); rw [h1, decide_eq_true h2, decide_eq_true h3]; simp [])) ?_
          refine lv_istore_n (lv' := [(2, .int (bI (mMt τ i (k + 1)))), (3, .int (nI k)), (1, .int (nI i)), (0, .ref (bd 0))]) hx hb dX5_isMaintained_55 rfl hl (by decide) rfl (fun ls hl => ?_)
          refine lv_iinc (v := nI (k + 1)) (lv' := [(3, .int (nI (k + 1))), (2, .int (bI (mMt τ i (k + 1)))), (1, .int (nI i)), (0, .ref (bd 0))]) hx hb dX5_isMaintained_56 hl (k := 1) rfl (nI_1 k) (by decide) rfl (fun ls hl => ?_)
          refine lv_goto (tgt := 4) hx hb dX5_isMaintained_59 (by decide) ?_
          exact ih (k + 1) _ _ (by omega) hS (lv_sub hl [0, 1, 2, 3] rfl)
